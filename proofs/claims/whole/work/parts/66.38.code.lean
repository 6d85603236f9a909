/-! methods (by program): X13_settle, X13_about, X13_waits, X13_habit, X13_foretoldOf, X13_foretold, X13_begin, X13_isMinute, X13_isNext, X13_tell, X13_isMeeting, X13_over, X13_absent, X13_comes, X13_away -/
theorem im_X13_tryMoves : Jvm.Cond.instanceMethod yX13_tryMoves ∈ qTw := qm8 (List.mem_of_getElem? (i := 222) (by decide +kernel)) (by decide +kernel)
theorem se_X13_tryMoves : Jvm.Cond.selects yX13_tryMoves.cls yX13_tryMoves yX13_tryMoves ∈ qTw := List.mem_filter.mpr ⟨List.mem_append_left _ (List.mem_of_getElem? (i := 64) (by decide +kernel)), rfl⟩
theorem co_X13_tryMoves : Jvm.Cond.code yX13_tryMoves cX13_tryMoves 5 none ∈ qTw := qm8 (List.mem_of_getElem? (i := 223) (by decide +kernel)) (by decide +kernel)
theorem yk_X13_tryMoves : qYk yX13_tryMoves 1 := ⟨⟨by decide +kernel, by decide +kernel⟩, by decide +kernel⟩
theorem ml_X13_435 : Jvm.Cond.methodLink RX13 435 yX13_tryMoves ∈ qTw := qm8 (List.mem_of_getElem? (i := 220) (by decide +kernel)) (by decide +kernel)
theorem kd_X13_435 {C : qCx} {w : qWp} {cc : ByteArray} {nL dp n0 n1 pc : Nat} (h : qOk C w RX13 cc nL dp n0 n1) (d : decode cc pc = .ok (.invokevirtual 435, 3)) : qCallOk C w nL dp n0 n1 pc 2 1 yX13_tryMoves (.code yX13_tryMoves cX13_tryMoves 5 none) := kindV h d ml_X13_435 im_X13_tryMoves se_X13_tryMoves in_ParentEveModel co_X13_tryMoves yk_X13_tryMoves (by decide)
theorem im_X13_trySwaps : Jvm.Cond.instanceMethod yX13_trySwaps ∈ qTw := qm8 (List.mem_of_getElem? (i := 230) (by decide +kernel)) (by decide +kernel)
theorem se_X13_trySwaps : Jvm.Cond.selects yX13_trySwaps.cls yX13_trySwaps yX13_trySwaps ∈ qTw := List.mem_filter.mpr ⟨List.mem_append_left _ (List.mem_of_getElem? (i := 66) (by decide +kernel)), rfl⟩
theorem co_X13_trySwaps : Jvm.Cond.code yX13_trySwaps cX13_trySwaps 5 none ∈ qTw := qm8 (List.mem_of_getElem? (i := 231) (by decide +kernel)) (by decide +kernel)
theorem yk_X13_trySwaps : qYk yX13_trySwaps 0 := ⟨⟨by decide +kernel, by decide +kernel⟩, by decide +kernel⟩
theorem ml_X13_439 : Jvm.Cond.methodLink RX13 439 yX13_trySwaps ∈ qTw := qm8 (List.mem_of_getElem? (i := 228) (by decide +kernel)) (by decide +kernel)
theorem kd_X13_439 {C : qCx} {w : qWp} {cc : ByteArray} {nL dp n0 n1 pc : Nat} (h : qOk C w RX13 cc nL dp n0 n1) (d : decode cc pc = .ok (.invokevirtual 439, 3)) : qCallOk C w nL dp n0 n1 pc 1 1 yX13_trySwaps (.code yX13_trySwaps cX13_trySwaps 5 none) := kindV h d ml_X13_439 im_X13_trySwaps se_X13_trySwaps in_ParentEveModel co_X13_trySwaps yk_X13_trySwaps (by decide)
theorem dX13_settle_0 : decode cX13_settle 0 = .ok (.aload_n 0, 1) := by decide +kernel
theorem dX13_settle_1 : decode cX13_settle 1 = .ok (.getfield 316, 3) := by decide +kernel
theorem dX13_settle_4 : decode cX13_settle 4 = .ok (.ifCond .eq 6, 3) := by decide +kernel
theorem dX13_settle_7 : decode cX13_settle 7 = .ok (.bipush (-4), 2) := by decide +kernel
theorem dX13_settle_9 : decode cX13_settle 9 = .ok (.ireturn, 1) := by decide +kernel
theorem dX13_settle_10 : decode cX13_settle 10 = .ok (.iconst 0, 1) := by decide +kernel
theorem dX13_settle_11 : decode cX13_settle 11 = .ok (.istore_n 1, 1) := by decide +kernel
theorem dX13_settle_12 : decode cX13_settle 12 = .ok (.iload_n 1, 1) := by decide +kernel
theorem dX13_settle_13 : decode cX13_settle 13 = .ok (.bipush 30, 2) := by decide +kernel
theorem dX13_settle_15 : decode cX13_settle 15 = .ok (.if_icmp .ge 108, 3) := by decide +kernel
theorem dX13_settle_18 : decode cX13_settle 18 = .ok (.aload_n 0, 1) := by decide +kernel
theorem dX13_settle_19 : decode cX13_settle 19 = .ok (.invokevirtual 406, 3) := by decide +kernel
theorem dX13_settle_22 : decode cX13_settle 22 = .ok (.aload_n 0, 1) := by decide +kernel
theorem dX13_settle_23 : decode cX13_settle 23 = .ok (.invokevirtual 412, 3) := by decide +kernel
theorem dX13_settle_26 : decode cX13_settle 26 = .ok (.aload_n 0, 1) := by decide +kernel
theorem dX13_settle_27 : decode cX13_settle 27 = .ok (.iconst (-1), 1) := by decide +kernel
theorem dX13_settle_28 : decode cX13_settle 28 = .ok (.putfield 422, 3) := by decide +kernel
theorem dX13_settle_31 : decode cX13_settle 31 = .ok (.aload_n 0, 1) := by decide +kernel
theorem dX13_settle_32 : decode cX13_settle 32 = .ok (.iconst 0, 1) := by decide +kernel
theorem dX13_settle_33 : decode cX13_settle 33 = .ok (.invokevirtual 435, 3) := by decide +kernel
theorem dX13_settle_36 : decode cX13_settle 36 = .ok (.aload_n 0, 1) := by decide +kernel
theorem dX13_settle_37 : decode cX13_settle 37 = .ok (.iconst 1, 1) := by decide +kernel
theorem dX13_settle_38 : decode cX13_settle 38 = .ok (.invokevirtual 435, 3) := by decide +kernel
theorem dX13_settle_41 : decode cX13_settle 41 = .ok (.aload_n 0, 1) := by decide +kernel
theorem dX13_settle_42 : decode cX13_settle 42 = .ok (.invokevirtual 439, 3) := by decide +kernel
theorem dX13_settle_45 : decode cX13_settle 45 = .ok (.aload_n 0, 1) := by decide +kernel
theorem dX13_settle_46 : decode cX13_settle 46 = .ok (.getfield 422, 3) := by decide +kernel
theorem dX13_settle_49 : decode cX13_settle 49 = .ok (.iconst (-1), 1) := by decide +kernel
theorem dX13_settle_50 : decode cX13_settle 50 = .ok (.if_icmp .ne 5, 3) := by decide +kernel
theorem dX13_settle_53 : decode cX13_settle 53 = .ok (.iload_n 1, 1) := by decide +kernel
theorem dX13_settle_54 : decode cX13_settle 54 = .ok (.ireturn, 1) := by decide +kernel
theorem dX13_settle_55 : decode cX13_settle 55 = .ok (.aload_n 0, 1) := by decide +kernel
theorem dX13_settle_56 : decode cX13_settle 56 = .ok (.getfield 425, 3) := by decide +kernel
theorem dX13_settle_59 : decode cX13_settle 59 = .ok (.iconst (-1), 1) := by decide +kernel
theorem dX13_settle_60 : decode cX13_settle 60 = .ok (.if_icmp .ne 19, 3) := by decide +kernel
theorem dX13_settle_63 : decode cX13_settle 63 = .ok (.aload_n 0, 1) := by decide +kernel
theorem dX13_settle_64 : decode cX13_settle 64 = .ok (.getfield 221, 3) := by decide +kernel
theorem dX13_settle_67 : decode cX13_settle 67 = .ok (.aload_n 0, 1) := by decide +kernel
theorem dX13_settle_68 : decode cX13_settle 68 = .ok (.getfield 422, 3) := by decide +kernel
theorem dX13_settle_71 : decode cX13_settle 71 = .ok (.aload_n 0, 1) := by decide +kernel
theorem dX13_settle_72 : decode cX13_settle 72 = .ok (.getfield 428, 3) := by decide +kernel
theorem dX13_settle_75 : decode cX13_settle 75 = .ok (.iastore, 1) := by decide +kernel
theorem dX13_settle_76 : decode cX13_settle 76 = .ok (.goto 41, 3) := by decide +kernel
theorem dX13_settle_79 : decode cX13_settle 79 = .ok (.aload_n 0, 1) := by decide +kernel
theorem dX13_settle_80 : decode cX13_settle 80 = .ok (.getfield 221, 3) := by decide +kernel
theorem dX13_settle_83 : decode cX13_settle 83 = .ok (.aload_n 0, 1) := by decide +kernel
theorem dX13_settle_84 : decode cX13_settle 84 = .ok (.getfield 422, 3) := by decide +kernel
theorem dX13_settle_87 : decode cX13_settle 87 = .ok (.iaload, 1) := by decide +kernel
theorem dX13_settle_88 : decode cX13_settle 88 = .ok (.istore_n 2, 1) := by decide +kernel
theorem dX13_settle_89 : decode cX13_settle 89 = .ok (.aload_n 0, 1) := by decide +kernel
theorem dX13_settle_90 : decode cX13_settle 90 = .ok (.getfield 221, 3) := by decide +kernel
theorem dX13_settle_93 : decode cX13_settle 93 = .ok (.aload_n 0, 1) := by decide +kernel
theorem dX13_settle_94 : decode cX13_settle 94 = .ok (.getfield 422, 3) := by decide +kernel
theorem dX13_settle_97 : decode cX13_settle 97 = .ok (.aload_n 0, 1) := by decide +kernel
theorem dX13_settle_98 : decode cX13_settle 98 = .ok (.getfield 221, 3) := by decide +kernel
theorem dX13_settle_101 : decode cX13_settle 101 = .ok (.aload_n 0, 1) := by decide +kernel
theorem dX13_settle_102 : decode cX13_settle 102 = .ok (.getfield 425, 3) := by decide +kernel
theorem dX13_settle_105 : decode cX13_settle 105 = .ok (.iaload, 1) := by decide +kernel
theorem dX13_settle_106 : decode cX13_settle 106 = .ok (.iastore, 1) := by decide +kernel
theorem dX13_settle_107 : decode cX13_settle 107 = .ok (.aload_n 0, 1) := by decide +kernel
theorem dX13_settle_108 : decode cX13_settle 108 = .ok (.getfield 221, 3) := by decide +kernel
theorem dX13_settle_111 : decode cX13_settle 111 = .ok (.aload_n 0, 1) := by decide +kernel
theorem dX13_settle_112 : decode cX13_settle 112 = .ok (.getfield 425, 3) := by decide +kernel
theorem dX13_settle_115 : decode cX13_settle 115 = .ok (.iload_n 2, 1) := by decide +kernel
theorem dX13_settle_116 : decode cX13_settle 116 = .ok (.iastore, 1) := by decide +kernel
theorem dX13_settle_117 : decode cX13_settle 117 = .ok (.iinc 1 1, 3) := by decide +kernel
theorem dX13_settle_120 : decode cX13_settle 120 = .ok (.goto (-108), 3) := by decide +kernel
theorem dX13_settle_123 : decode cX13_settle 123 = .ok (.iload_n 1, 1) := by decide +kernel
theorem dX13_settle_124 : decode cX13_settle 124 = .ok (.ireturn, 1) := by decide +kernel
noncomputable def tX13_settle_65 (j7 : qT (Int32 × qM)) : qT (Int32 × qM) :=
  oInc 1 (1 : Int32) (j7)
noncomputable def wX13_settle_65 (k : Int32 → qM → Option (Int32 × qM)) : qT (Int32 × qM) := fun lo st m => match lo, st with
  | [some (.ref 98), some (.int a1), _], [] => k a1 m
  | _, _ => none
noncomputable def wX13_settle_7 (k : Int32 → qM → Option (Int32 × qM)) : qT (Int32 × qM) := fun lo st m => match lo, st with
  | [some (.ref 98), some (.int a1), _], [] => k a1 m
  | _, _ => none
set_option maxRecDepth 20000 in
theorem sX13_settle_65 {C : qCx} {w : qWp} (h : qOk C w RX13 cX13_settle 3 6 155 155) (hm : qMt C (some .int)) (hx : qNx C) {j7 : qT (Int32 × qM)} (k7 : qSnd C w 3 155 (qQf C w 155 155 jI) qfin 155 12 j7) : qSnd C w 3 155 (qQf C w 155 155 jI) qfin 155 117 (tX13_settle_65 j7) :=
  cInc (pc := 117) h dX13_settle_117 rfl (jGo (pc := 120) h dX13_settle_120 rfl (k7))
set_option maxRecDepth 20000 in
theorem lX13_settle_65 (k7 : Int32 → qM → Option (Int32 × qM)) (a1 : Int32) (m : qM) : tX13_settle_65 (wX13_settle_7 k7) [some (.ref 98), some (.int a1), none] [] m = fX13_settle_65 k7 a1 m := rfl
theorem bX13_settle_65 {C : qCx} {w : qWp} (h : qOk C w RX13 cX13_settle 3 6 155 155) (hm : qMt C (some .int)) (hx : qNx C) {k7 : Int32 → qM → Option (Int32 × qM)} (h7 : qSnd C w 3 155 (qQf C w 155 155 jI) qfin 155 12 (wX13_settle_7 k7)) : qSnd C w 3 155 (qQf C w 155 155 jI) qfin 155 117 (wX13_settle_65 (fX13_settle_65 k7)) :=
  qSnd_of (fun lo st m x hr0 => by
    unfold wX13_settle_65 at hr0
    split at hr0
    · exact ⟨_, (qsub_e (qsub_e (qsub_n qsub_nil))), (lX13_settle_65 _ _ _).trans hr0⟩
    · cases hr0) (sX13_settle_65 h hm hx h7)
noncomputable def tX13_settle_7 (j65 : qT (Int32 × qM)) : qT (Int32 × qM) :=
  oLi 1 (oC (.int (30 : Int32)) (oCGe (oLi 1 (eI)) (oLa 0 (oCv GX13_valueNow 1 (oLa 0 (oCv GX13_keepValue 1 (oLa 0 (oC (.int (-1 : Int32)) (oPi 98 47 (oLa 0 (oC (.int (0 : Int32)) (oCv GX13_tryMoves 2 (oLa 0 (oC (.int (1 : Int32)) (oCv GX13_tryMoves 2 (oLa 0 (oCv GX13_trySwaps 1 (oLa 0 (oGi 98 47 (oC (.int (-1 : Int32)) (oCEq (oLi 1 (eI)) (oLa 0 (oGi 98 48 (oC (.int (-1 : Int32)) (oCEq (oLa 0 (oGf 98 36 125 (oLa 0 (oGi 98 47 (oLa 0 (oGi 98 49 (oWi 125 40 (j65)))))))) (oLa 0 (oGf 98 36 125 (oLa 0 (oGi 98 47 (oAi 125 40 (oSi 2 (oLa 0 (oGf 98 36 125 (oLa 0 (oGi 98 47 (oLa 0 (oGf 98 36 125 (oLa 0 (oGi 98 48 (oAi 125 40 (oWi 125 40 (oLa 0 (oGf 98 36 125 (oLa 0 (oGi 98 48 (oLi 2 (oWi 125 40 (j65))))))))))))))))))))))))))))))))))))))))))))))))
set_option maxRecDepth 20000 in
theorem sX13_settle_7 {C : qCx} {w : qWp} (h : qOk C w RX13 cX13_settle 3 6 155 155) (hm : qMt C (some .int)) (hx : qNx C) {j65 : qT (Int32 × qM)} (k65 : qSnd C w 3 155 (qQf C w 155 155 jI) qfin 155 117 j65) : qSnd C w 3 155 (qQf C w 155 155 jI) qfin 155 12 (tX13_settle_7 j65) :=
  cLi (pc := 12) h dX13_settle_12 rfl (cB (pc := 13) h dX13_settle_13 rfl (jCGe (pc := 15) h dX13_settle_15 rfl (cLi (pc := 123) h dX13_settle_123 rfl (zI (pc := 124) h hm (Nat.le_refl _) dX13_settle_124)) (cLa (pc := 18) h dX13_settle_18 rfl (kCv (pc := 19) h (kd_X13_406 h dX13_settle_19) spX13_valueNow (by decide) (by decide) (by decide) (by decide) (cLa (pc := 22) h dX13_settle_22 rfl (kCv (pc := 23) h (kd_X13_412 h dX13_settle_23) spX13_keepValue (by decide) (by decide) (by decide) (by decide) (cLa (pc := 26) h dX13_settle_26 rfl (cC (pc := 27) h dX13_settle_27 rfl (gPi (pc := 28) h dX13_settle_28 ff_X13_422_98 (Or.inl rfl) (Nat.le_of_ble_eq_true rfl) (Nat.le_of_ble_eq_true rfl) (cLa (pc := 31) h dX13_settle_31 rfl (cC (pc := 32) h dX13_settle_32 rfl (kCv (pc := 33) h (kd_X13_435 h dX13_settle_33) spX13_tryMoves (by decide) (by decide) (by decide) (by decide) (cLa (pc := 36) h dX13_settle_36 rfl (cC (pc := 37) h dX13_settle_37 rfl (kCv (pc := 38) h (kd_X13_435 h dX13_settle_38) spX13_tryMoves (by decide) (by decide) (by decide) (by decide) (cLa (pc := 41) h dX13_settle_41 rfl (kCv (pc := 42) h (kd_X13_439 h dX13_settle_42) spX13_trySwaps (by decide) (by decide) (by decide) (by decide) (cLa (pc := 45) h dX13_settle_45 rfl (gGi (pc := 46) h dX13_settle_46 ff_X13_422_98 (Nat.le_of_ble_eq_true rfl) (Nat.le_of_ble_eq_true rfl) (cC (pc := 49) h dX13_settle_49 rfl (jCNe (pc := 50) h dX13_settle_50 rfl (cLa (pc := 55) h dX13_settle_55 rfl (gGi (pc := 56) h dX13_settle_56 ff_X13_425_98 (Nat.le_of_ble_eq_true rfl) (Nat.le_of_ble_eq_true rfl) (cC (pc := 59) h dX13_settle_59 rfl (jCNe (pc := 60) h dX13_settle_60 rfl (cLa (pc := 79) h dX13_settle_79 rfl (gGf (pc := 80) h dX13_settle_80 ff_X13_221_98 (Nat.le_of_ble_eq_true rfl) (Nat.le_of_ble_eq_true rfl) rfl (cLa (pc := 83) h dX13_settle_83 rfl (gGi (pc := 84) h dX13_settle_84 ff_X13_422_98 (Nat.le_of_ble_eq_true rfl) (Nat.le_of_ble_eq_true rfl) (rAi (pc := 87) h dX13_settle_87 rfl (Nat.le_of_ble_eq_true rfl) (Nat.le_of_ble_eq_true rfl) (cSi (pc := 88) h dX13_settle_88 rfl (cLa (pc := 89) h dX13_settle_89 rfl (gGf (pc := 90) h dX13_settle_90 ff_X13_221_98 (Nat.le_of_ble_eq_true rfl) (Nat.le_of_ble_eq_true rfl) rfl (cLa (pc := 93) h dX13_settle_93 rfl (gGi (pc := 94) h dX13_settle_94 ff_X13_422_98 (Nat.le_of_ble_eq_true rfl) (Nat.le_of_ble_eq_true rfl) (cLa (pc := 97) h dX13_settle_97 rfl (gGf (pc := 98) h dX13_settle_98 ff_X13_221_98 (Nat.le_of_ble_eq_true rfl) (Nat.le_of_ble_eq_true rfl) rfl (cLa (pc := 101) h dX13_settle_101 rfl (gGi (pc := 102) h dX13_settle_102 ff_X13_425_98 (Nat.le_of_ble_eq_true rfl) (Nat.le_of_ble_eq_true rfl) (rAi (pc := 105) h dX13_settle_105 rfl (Nat.le_of_ble_eq_true rfl) (Nat.le_of_ble_eq_true rfl) (rWi (pc := 106) h dX13_settle_106 rfl (Nat.le_of_ble_eq_true rfl) (Nat.le_of_ble_eq_true rfl) (cLa (pc := 107) h dX13_settle_107 rfl (gGf (pc := 108) h dX13_settle_108 ff_X13_221_98 (Nat.le_of_ble_eq_true rfl) (Nat.le_of_ble_eq_true rfl) rfl (cLa (pc := 111) h dX13_settle_111 rfl (gGi (pc := 112) h dX13_settle_112 ff_X13_425_98 (Nat.le_of_ble_eq_true rfl) (Nat.le_of_ble_eq_true rfl) (cLi (pc := 115) h dX13_settle_115 rfl (rWi (pc := 116) h dX13_settle_116 rfl (Nat.le_of_ble_eq_true rfl) (Nat.le_of_ble_eq_true rfl) (k65))))))))))))))))))))))) (cLa (pc := 63) h dX13_settle_63 rfl (gGf (pc := 64) h dX13_settle_64 ff_X13_221_98 (Nat.le_of_ble_eq_true rfl) (Nat.le_of_ble_eq_true rfl) rfl (cLa (pc := 67) h dX13_settle_67 rfl (gGi (pc := 68) h dX13_settle_68 ff_X13_422_98 (Nat.le_of_ble_eq_true rfl) (Nat.le_of_ble_eq_true rfl) (cLa (pc := 71) h dX13_settle_71 rfl (gGi (pc := 72) h dX13_settle_72 ff_X13_428_98 (Nat.le_of_ble_eq_true rfl) (Nat.le_of_ble_eq_true rfl) (rWi (pc := 75) h dX13_settle_75 rfl (Nat.le_of_ble_eq_true rfl) (Nat.le_of_ble_eq_true rfl) (jGo (pc := 76) h dX13_settle_76 rfl (k65))))))))))))) (cLi (pc := 53) h dX13_settle_53 rfl (zI (pc := 54) h hm (Nat.le_refl _) dX13_settle_54)))))))))))))))))))))))
set_option maxRecDepth 20000 in
theorem lX13_settle_7 (n : Nat) (a1 : Int32) (m : qM) : tX13_settle_7 (wX13_settle_65 (fX13_settle_65 (fX13_settle_7 n))) [some (.ref 98), some (.int a1), none] [] m = fX13_settle_7 (n + 1) a1 m := rfl
theorem bX13_settle_7 {C : qCx} {w : qWp} (h : qOk C w RX13 cX13_settle 3 6 155 155) (hm : qMt C (some .int)) (hx : qNx C) : ∀ n : Nat, qSnd C w 3 155 (qQf C w 155 155 jI) qfin 155 12 (wX13_settle_7 (fX13_settle_7 n))
  | 0 => qSnd_of0 (fun lo st m x hr0 => by
    unfold wX13_settle_7 at hr0
    split at hr0
    · cases hr0
    · cases hr0)
  | n + 1 => by
    have ih := bX13_settle_7 h hm hx n
    exact qSnd_of (fun lo st m x hr0 => by
    unfold wX13_settle_7 at hr0
    split at hr0
    · exact ⟨_, (qsub_e (qsub_e (qsub_n qsub_nil))), (lX13_settle_7 n _ _).trans hr0⟩
    · cases hr0) (sX13_settle_7 h hm hx (bX13_settle_65 h hm hx ih))
noncomputable def tX13_settle_0 (j7 : qT (Int32 × qM)) : qT (Int32 × qM) :=
  oLa 0 (oGi 98 33 (oEq (oC (.int (0 : Int32)) (oSi 1 (j7))) (oC (.int (-4 : Int32)) (eI))))
set_option maxRecDepth 20000 in
theorem sX13_settle_0 {C : qCx} {w : qWp} (h : qOk C w RX13 cX13_settle 3 6 155 155) (hm : qMt C (some .int)) (hx : qNx C) {j7 : qT (Int32 × qM)} (k7 : qSnd C w 3 155 (qQf C w 155 155 jI) qfin 155 12 j7) : qSnd C w 3 155 (qQf C w 155 155 jI) qfin 155 0 (tX13_settle_0 j7) :=
  cLa (pc := 0) h dX13_settle_0 rfl (gGz (pc := 1) h dX13_settle_1 ff_X13_316_98 (Nat.le_of_ble_eq_true rfl) (Nat.le_of_ble_eq_true rfl) (jEq (pc := 4) h dX13_settle_4 rfl (cC (pc := 10) h dX13_settle_10 rfl (cSi (pc := 11) h dX13_settle_11 rfl (k7))) (cB (pc := 7) h dX13_settle_7 rfl (zI (pc := 9) h hm (Nat.le_refl _) dX13_settle_9))))
set_option maxRecDepth 20000 in
theorem lX13_settle_0 (m : qM) : tX13_settle_0 (wX13_settle_7 (fX13_settle_7 FU)) [some (.ref 98), none, none] [] m = fX13_settle_0 m := rfl
noncomputable def GX13_settle : qG Int32 := fun av m => match av with
  | [.ref 98] => fX13_settle m
  | _ => none
theorem spX13_settle : qSpI yX13_settle (.code yX13_settle cX13_settle 3 (some .int)) 6 qfin 155 155 1 GX13_settle := by
  intro av m x m' hG
  unfold GX13_settle at hG
  split at hG
  · rw [fX13_settle_d] at hG
    exact ⟨qmeet (J := jI) (r := (x, m')) (av := [.ref 98]) (by decide +kernel) (Nat.le_of_ble_eq_true rfl) (fun C w h hm hx hn => sX13_settle_0 h hm hx (bX13_settle_7 h hm hx FU)) ((lX13_settle_0 _).trans hG) (Nat.le_of_ble_eq_true rfl), Or.inl ⟨98, _, 13, _, _, rfl, by decide, rfl, qCk_13, rfl⟩⟩
  · cases hG
theorem dX13_about_0 : decode cX13_about 0 = .ok (.aload_n 0, 1) := by decide +kernel
theorem dX13_about_1 : decode cX13_about 1 = .ok (.iload_n 1, 1) := by decide +kernel
theorem dX13_about_2 : decode cX13_about 2 = .ok (.invokevirtual 372, 3) := by decide +kernel
theorem dX13_about_5 : decode cX13_about 5 = .ok (.ifCond .ne 6, 3) := by decide +kernel
theorem dX13_about_8 : decode cX13_about 8 = .ok (.bipush (-9), 2) := by decide +kernel
theorem dX13_about_10 : decode cX13_about 10 = .ok (.ireturn, 1) := by decide +kernel
theorem dX13_about_11 : decode cX13_about 11 = .ok (.iload_n 2, 1) := by decide +kernel
theorem dX13_about_12 : decode cX13_about 12 = .ok (.tableswitch 68 0 3 #[32, 39, 46, 61], 32) := by decide +kernel
theorem dX13_about_44 : decode cX13_about 44 = .ok (.aload_n 0, 1) := by decide +kernel
theorem dX13_about_45 : decode cX13_about 45 = .ok (.getfield 215, 3) := by decide +kernel
theorem dX13_about_48 : decode cX13_about 48 = .ok (.iload_n 1, 1) := by decide +kernel
theorem dX13_about_49 : decode cX13_about 49 = .ok (.iaload, 1) := by decide +kernel
theorem dX13_about_50 : decode cX13_about 50 = .ok (.ireturn, 1) := by decide +kernel
theorem dX13_about_51 : decode cX13_about 51 = .ok (.aload_n 0, 1) := by decide +kernel
theorem dX13_about_52 : decode cX13_about 52 = .ok (.getfield 218, 3) := by decide +kernel
theorem dX13_about_55 : decode cX13_about 55 = .ok (.iload_n 1, 1) := by decide +kernel
theorem dX13_about_56 : decode cX13_about 56 = .ok (.iaload, 1) := by decide +kernel
theorem dX13_about_57 : decode cX13_about 57 = .ok (.ireturn, 1) := by decide +kernel
theorem dX13_about_58 : decode cX13_about 58 = .ok (.aload_n 0, 1) := by decide +kernel
theorem dX13_about_59 : decode cX13_about 59 = .ok (.getfield 223, 3) := by decide +kernel
theorem dX13_about_62 : decode cX13_about 62 = .ok (.iload_n 1, 1) := by decide +kernel
theorem dX13_about_63 : decode cX13_about 63 = .ok (.baload, 1) := by decide +kernel
theorem dX13_about_64 : decode cX13_about 64 = .ok (.ifCond .eq 7, 3) := by decide +kernel
theorem dX13_about_67 : decode cX13_about 67 = .ok (.iconst 1, 1) := by decide +kernel
theorem dX13_about_68 : decode cX13_about 68 = .ok (.goto 4, 3) := by decide +kernel
theorem dX13_about_71 : decode cX13_about 71 = .ok (.iconst 0, 1) := by decide +kernel
theorem dX13_about_72 : decode cX13_about 72 = .ok (.ireturn, 1) := by decide +kernel
theorem dX13_about_73 : decode cX13_about 73 = .ok (.aload_n 0, 1) := by decide +kernel
theorem dX13_about_74 : decode cX13_about 74 = .ok (.getfield 221, 3) := by decide +kernel
theorem dX13_about_77 : decode cX13_about 77 = .ok (.iload_n 1, 1) := by decide +kernel
theorem dX13_about_78 : decode cX13_about 78 = .ok (.iaload, 1) := by decide +kernel
theorem dX13_about_79 : decode cX13_about 79 = .ok (.ireturn, 1) := by decide +kernel
theorem dX13_about_80 : decode cX13_about 80 = .ok (.bipush (-9), 2) := by decide +kernel
theorem dX13_about_82 : decode cX13_about 82 = .ok (.ireturn, 1) := by decide +kernel
noncomputable def tX13_about_26 : qT (Int32 × qM) :=
  eI
noncomputable def wX13_about_26 (k : Int32 → qM → Option (Int32 × qM)) : qT (Int32 × qM) := fun lo st m => match lo, st with
  | [_, _, _], [.int s0] => k s0 m
  | _, _ => none
set_option maxRecDepth 20000 in
theorem sX13_about_26 {C : qCx} {w : qWp} (h : qOk C w RX13 cX13_about 3 2 155 155) (hm : qMt C (some .int)) (hx : qNx C) : qSnd C w 3 155 (qQf C w 155 155 jI) qfin 155 72 (tX13_about_26) :=
  zI (pc := 72) h hm (Nat.le_refl _) dX13_about_72
set_option maxRecDepth 20000 in
theorem lX13_about_26 (s0 : Int32) (m : qM) : tX13_about_26 [none, none, none] [(.int s0)] m = fX13_about_26 s0 m := rfl
theorem bX13_about_26 {C : qCx} {w : qWp} (h : qOk C w RX13 cX13_about 3 2 155 155) (hm : qMt C (some .int)) (hx : qNx C) : qSnd C w 3 155 (qQf C w 155 155 jI) qfin 155 72 (wX13_about_26 fX13_about_26) :=
  qSnd_of (fun lo st m x hr0 => by
    unfold wX13_about_26 at hr0
    split at hr0
    · exact ⟨_, (qsub_n (qsub_n (qsub_n qsub_nil))), (lX13_about_26 _ _).trans hr0⟩
    · cases hr0) (sX13_about_26 h hm hx)
noncomputable def tX13_about_0 (j26 : qT (Int32 × qM)) : qT (Int32 × qM) :=
  oLa 0 (oLi 1 (oCi GX13_isAsk 2 (oEq (oC (.int (-9 : Int32)) (eI)) (oLi 2 (oSw (0 : Int32) (oC (.int (-9 : Int32)) (eI)) [oLa 0 (oGf 98 34 123 (oLi 1 (oAi 123 40 (eI)))), oLa 0 (oGf 98 35 124 (oLi 1 (oAi 124 40 (eI)))), oLa 0 (oGf 98 37 126 (oLi 1 (oAi 126 40 (oEq (oC (.int (0 : Int32)) (j26)) (oC (.int (1 : Int32)) (j26)))))), oLa 0 (oGf 98 36 125 (oLi 1 (oAi 125 40 (eI))))])))))
set_option maxRecDepth 20000 in
theorem sX13_about_0 {C : qCx} {w : qWp} (h : qOk C w RX13 cX13_about 3 2 155 155) (hm : qMt C (some .int)) (hx : qNx C) {j26 : qT (Int32 × qM)} (k26 : qSnd C w 3 155 (qQf C w 155 155 jI) qfin 155 72 j26) : qSnd C w 3 155 (qQf C w 155 155 jI) qfin 155 0 (tX13_about_0 j26) :=
  cLa (pc := 0) h dX13_about_0 rfl (cLi (pc := 1) h dX13_about_1 rfl (kCi (pc := 2) h (kd_X13_372 h dX13_about_2) spX13_isAsk (by decide) (by decide) (by decide) (by decide) (jNe (pc := 5) h dX13_about_5 rfl (cLi (pc := 11) h dX13_about_11 rfl (jSw (pc := 12) (a := 0) h dX13_about_12 rfl rfl rfl (by decide) rfl (cB (pc := 80) h dX13_about_80 rfl (zI (pc := 82) h hm (Nat.le_refl _) dX13_about_82)) ⟨⟨_, rfl, cLa (pc := 44) h dX13_about_44 rfl (gGf (pc := 45) h dX13_about_45 ff_X13_215_98 (Nat.le_of_ble_eq_true rfl) (Nat.le_of_ble_eq_true rfl) rfl (cLi (pc := 48) h dX13_about_48 rfl (rAi (pc := 49) h dX13_about_49 rfl (Nat.le_of_ble_eq_true rfl) (Nat.le_of_ble_eq_true rfl) (zI (pc := 50) h hm (Nat.le_refl _) dX13_about_50))))⟩, ⟨⟨_, rfl, cLa (pc := 51) h dX13_about_51 rfl (gGf (pc := 52) h dX13_about_52 ff_X13_218_98 (Nat.le_of_ble_eq_true rfl) (Nat.le_of_ble_eq_true rfl) rfl (cLi (pc := 55) h dX13_about_55 rfl (rAi (pc := 56) h dX13_about_56 rfl (Nat.le_of_ble_eq_true rfl) (Nat.le_of_ble_eq_true rfl) (zI (pc := 57) h hm (Nat.le_refl _) dX13_about_57))))⟩, ⟨⟨_, rfl, cLa (pc := 58) h dX13_about_58 rfl (gGf (pc := 59) h dX13_about_59 ff_X13_223_98 (Nat.le_of_ble_eq_true rfl) (Nat.le_of_ble_eq_true rfl) rfl (cLi (pc := 62) h dX13_about_62 rfl (rAz (pc := 63) h dX13_about_63 rfl (Nat.le_of_ble_eq_true rfl) (Nat.le_of_ble_eq_true rfl) (jEq (pc := 64) h dX13_about_64 rfl (cC (pc := 71) h dX13_about_71 rfl (k26)) (cC (pc := 67) h dX13_about_67 rfl (jGo (pc := 68) h dX13_about_68 rfl (k26)))))))⟩, ⟨⟨_, rfl, cLa (pc := 73) h dX13_about_73 rfl (gGf (pc := 74) h dX13_about_74 ff_X13_221_98 (Nat.le_of_ble_eq_true rfl) (Nat.le_of_ble_eq_true rfl) rfl (cLi (pc := 77) h dX13_about_77 rfl (rAi (pc := 78) h dX13_about_78 rfl (Nat.le_of_ble_eq_true rfl) (Nat.le_of_ble_eq_true rfl) (zI (pc := 79) h hm (Nat.le_refl _) dX13_about_79))))⟩, trivial⟩⟩⟩⟩)) (cB (pc := 8) h dX13_about_8 rfl (zI (pc := 10) h hm (Nat.le_refl _) dX13_about_10)))))
set_option maxRecDepth 20000 in
theorem lX13_about_0 (a1 : Int32) (a2 : Int32) (m : qM) : tX13_about_0 (wX13_about_26 fX13_about_26) [some (.ref 98), some (.int a1), some (.int a2)] [] m = fX13_about_0 a1 a2 m := rfl
noncomputable def GX13_about : qG Int32 := fun av m => match av with
  | [.ref 98, .int a1, .int a2] => fX13_about a1 a2 m
  | _ => none
theorem spX13_about : qSpI yX13_about (.code yX13_about cX13_about 3 (some .int)) 2 qfin 155 155 1 GX13_about := by
  intro av m x m' hG
  unfold GX13_about at hG
  split at hG
  · rename_i a1 a2
    rw [fX13_about_d] at hG
    exact ⟨qmeet (J := jI) (r := (x, m')) (av := [.ref 98, .int a1, .int a2]) (by decide +kernel) (Nat.le_of_ble_eq_true rfl) (fun C w h hm hx hn => sX13_about_0 h hm hx (bX13_about_26 h hm hx)) ((lX13_about_0 _ _ _).trans hG) (Nat.le_of_ble_eq_true rfl), Or.inl ⟨98, _, 13, _, _, rfl, by decide, rfl, qCk_13, rfl⟩⟩
  · cases hG
theorem dX13_waits_0 : decode cX13_waits 0 = .ok (.iload_n 1, 1) := by decide +kernel
theorem dX13_waits_1 : decode cX13_waits 1 = .ok (.invokestatic 358, 3) := by decide +kernel
theorem dX13_waits_4 : decode cX13_waits 4 = .ok (.ifCond .eq 11, 3) := by decide +kernel
theorem dX13_waits_7 : decode cX13_waits 7 = .ok (.aload_n 0, 1) := by decide +kernel
theorem dX13_waits_8 : decode cX13_waits 8 = .ok (.iload_n 1, 1) := by decide +kernel
theorem dX13_waits_9 : decode cX13_waits 9 = .ok (.invokevirtual 388, 3) := by decide +kernel
theorem dX13_waits_12 : decode cX13_waits 12 = .ok (.goto 5, 3) := by decide +kernel
theorem dX13_waits_15 : decode cX13_waits 15 = .ok (.bipush (-2), 2) := by decide +kernel
theorem dX13_waits_17 : decode cX13_waits 17 = .ok (.ireturn, 1) := by decide +kernel
noncomputable def tX13_waits_8 : qT (Int32 × qM) :=
  eI
noncomputable def wX13_waits_8 (k : Int32 → qM → Option (Int32 × qM)) : qT (Int32 × qM) := fun lo st m => match lo, st with
  | [_, _], [.int s0] => k s0 m
  | _, _ => none
set_option maxRecDepth 20000 in
theorem sX13_waits_8 {C : qCx} {w : qWp} (h : qOk C w RX13 cX13_waits 2 2 155 155) (hm : qMt C (some .int)) (hx : qNx C) : qSnd C w 2 155 (qQf C w 155 155 jI) qfin 155 17 (tX13_waits_8) :=
  zI (pc := 17) h hm (Nat.le_refl _) dX13_waits_17
set_option maxRecDepth 20000 in
theorem lX13_waits_8 (s0 : Int32) (m : qM) : tX13_waits_8 [none, none] [(.int s0)] m = fX13_waits_8 s0 m := rfl
theorem bX13_waits_8 {C : qCx} {w : qWp} (h : qOk C w RX13 cX13_waits 2 2 155 155) (hm : qMt C (some .int)) (hx : qNx C) : qSnd C w 2 155 (qQf C w 155 155 jI) qfin 155 17 (wX13_waits_8 fX13_waits_8) :=
  qSnd_of (fun lo st m x hr0 => by
    unfold wX13_waits_8 at hr0
    split at hr0
    · exact ⟨_, (qsub_n (qsub_n qsub_nil)), (lX13_waits_8 _ _).trans hr0⟩
    · cases hr0) (sX13_waits_8 h hm hx)
noncomputable def tX13_waits_0 (j8 : qT (Int32 × qM)) : qT (Int32 × qM) :=
  oLi 1 (oCi GX13_isFamily 1 (oEq (oC (.int (-2 : Int32)) (j8)) (oLa 0 (oLi 1 (oCi GX13_waitsOf 2 (j8))))))
set_option maxRecDepth 20000 in
theorem sX13_waits_0 {C : qCx} {w : qWp} (h : qOk C w RX13 cX13_waits 2 2 155 155) (hm : qMt C (some .int)) (hx : qNx C) {j8 : qT (Int32 × qM)} (k8 : qSnd C w 2 155 (qQf C w 155 155 jI) qfin 155 17 j8) : qSnd C w 2 155 (qQf C w 155 155 jI) qfin 155 0 (tX13_waits_0 j8) :=
  cLi (pc := 0) h dX13_waits_0 rfl (kCi (pc := 1) h (kd_X13_358 h dX13_waits_1) spX13_isFamily (by decide) (by decide) (by decide) (by decide) (jEq (pc := 4) h dX13_waits_4 rfl (cB (pc := 15) h dX13_waits_15 rfl (k8)) (cLa (pc := 7) h dX13_waits_7 rfl (cLi (pc := 8) h dX13_waits_8 rfl (kCi (pc := 9) h (kd_X13_388 h dX13_waits_9) spX13_waitsOf (by decide) (by decide) (by decide) (by decide) (jGo (pc := 12) h dX13_waits_12 rfl (k8)))))))
set_option maxRecDepth 20000 in
theorem lX13_waits_0 (a1 : Int32) (m : qM) : tX13_waits_0 (wX13_waits_8 fX13_waits_8) [some (.ref 98), some (.int a1)] [] m = fX13_waits_0 a1 m := rfl
noncomputable def GX13_waits : qG Int32 := fun av m => match av with
  | [.ref 98, .int a1] => fX13_waits a1 m
  | _ => none
theorem spX13_waits : qSpI yX13_waits (.code yX13_waits cX13_waits 2 (some .int)) 2 qfin 155 155 1 GX13_waits := by
  intro av m x m' hG
  unfold GX13_waits at hG
  split at hG
  · rename_i a1
    rw [fX13_waits_d] at hG
    exact ⟨qmeet (J := jI) (r := (x, m')) (av := [.ref 98, .int a1]) (by decide +kernel) (Nat.le_of_ble_eq_true rfl) (fun C w h hm hx hn => sX13_waits_0 h hm hx (bX13_waits_8 h hm hx)) ((lX13_waits_0 _ _).trans hG) (Nat.le_of_ble_eq_true rfl), Or.inl ⟨98, _, 13, _, _, rfl, by decide, rfl, qCk_13, rfl⟩⟩
  · cases hG
theorem fc_X13_442 : Jvm.Cond.constantLong RX13 442 (60 : Int64) ∈ qTw := qm9 (List.mem_of_getElem? (i := 4) (by decide +kernel)) (by decide +kernel)
theorem mf_X13_241 : Jvm.Cond.fieldLink RX13 241 (qTb 13 50).1 (qTb 13 50).2.1 (qTb 13 50).2.2.1 ∈ qTw := qm7 (List.mem_of_getElem? (i := 28) (by decide +kernel)) (by decide +kernel)
theorem ff_X13_241_98 : qFd RX13 241 98 13 50 3 := ⟨mf_X13_241, rfl, by decide, rfl⟩
theorem mf_X13_244 : Jvm.Cond.fieldLink RX13 244 (qTb 13 51).1 (qTb 13 51).2.1 (qTb 13 51).2.2.1 ∈ qTw := qm7 (List.mem_of_getElem? (i := 29) (by decide +kernel)) (by decide +kernel)
theorem ff_X13_244_98 : qFd RX13 244 98 13 51 3 := ⟨mf_X13_244, rfl, by decide, rfl⟩
theorem dX13_habit_0 : decode cX13_habit 0 = .ok (.iload_n 1, 1) := by decide +kernel
theorem dX13_habit_1 : decode cX13_habit 1 = .ok (.invokestatic 340, 3) := by decide +kernel
theorem dX13_habit_4 : decode cX13_habit 4 = .ok (.ifCond .eq 15, 3) := by decide +kernel
theorem dX13_habit_7 : decode cX13_habit 7 = .ok (.iload_n 2, 1) := by decide +kernel
theorem dX13_habit_8 : decode cX13_habit 8 = .ok (.i2l, 1) := by decide +kernel
theorem dX13_habit_9 : decode cX13_habit 9 = .ok (.lconst 0, 1) := by decide +kernel
theorem dX13_habit_10 : decode cX13_habit 10 = .ok (.ldc2_w 442, 3) := by decide +kernel
theorem dX13_habit_13 : decode cX13_habit 13 = .ok (.invokestatic 66, 3) := by decide +kernel
theorem dX13_habit_16 : decode cX13_habit 16 = .ok (.ifCond .ne 6, 3) := by decide +kernel
theorem dX13_habit_19 : decode cX13_habit 19 = .ok (.bipush (-2), 2) := by decide +kernel
theorem dX13_habit_21 : decode cX13_habit 21 = .ok (.ireturn, 1) := by decide +kernel
theorem dX13_habit_22 : decode cX13_habit 22 = .ok (.aload_n 0, 1) := by decide +kernel
theorem dX13_habit_23 : decode cX13_habit 23 = .ok (.getfield 241, 3) := by decide +kernel
theorem dX13_habit_26 : decode cX13_habit 26 = .ok (.iload_n 1, 1) := by decide +kernel
theorem dX13_habit_27 : decode cX13_habit 27 = .ok (.iaload, 1) := by decide +kernel
theorem dX13_habit_28 : decode cX13_habit 28 = .ok (.bipush 20, 2) := by decide +kernel
theorem dX13_habit_30 : decode cX13_habit 30 = .ok (.if_icmp .ne 6, 3) := by decide +kernel
theorem dX13_habit_33 : decode cX13_habit 33 = .ok (.bipush (-3), 2) := by decide +kernel
theorem dX13_habit_35 : decode cX13_habit 35 = .ok (.ireturn, 1) := by decide +kernel
theorem dX13_habit_36 : decode cX13_habit 36 = .ok (.bipush 20, 2) := by decide +kernel
theorem dX13_habit_38 : decode cX13_habit 38 = .ok (.iload_n 1, 1) := by decide +kernel
theorem dX13_habit_39 : decode cX13_habit 39 = .ok (.imul, 1) := by decide +kernel
theorem dX13_habit_40 : decode cX13_habit 40 = .ok (.aload_n 0, 1) := by decide +kernel
theorem dX13_habit_41 : decode cX13_habit 41 = .ok (.getfield 241, 3) := by decide +kernel
theorem dX13_habit_44 : decode cX13_habit 44 = .ok (.iload_n 1, 1) := by decide +kernel
theorem dX13_habit_45 : decode cX13_habit 45 = .ok (.iaload, 1) := by decide +kernel
theorem dX13_habit_46 : decode cX13_habit 46 = .ok (.iadd, 1) := by decide +kernel
theorem dX13_habit_47 : decode cX13_habit 47 = .ok (.istore_n 3, 1) := by decide +kernel
theorem dX13_habit_48 : decode cX13_habit 48 = .ok (.iload_n 3, 1) := by decide +kernel
theorem dX13_habit_49 : decode cX13_habit 49 = .ok (.bipush 20, 2) := by decide +kernel
theorem dX13_habit_51 : decode cX13_habit 51 = .ok (.iload_n 1, 1) := by decide +kernel
theorem dX13_habit_52 : decode cX13_habit 52 = .ok (.imul, 1) := by decide +kernel
theorem dX13_habit_53 : decode cX13_habit 53 = .ok (.if_icmp .le 35, 3) := by decide +kernel
theorem dX13_habit_56 : decode cX13_habit 56 = .ok (.aload_n 0, 1) := by decide +kernel
theorem dX13_habit_57 : decode cX13_habit 57 = .ok (.getfield 244, 3) := by decide +kernel
theorem dX13_habit_60 : decode cX13_habit 60 = .ok (.iload_n 3, 1) := by decide +kernel
theorem dX13_habit_61 : decode cX13_habit 61 = .ok (.iconst 1, 1) := by decide +kernel
theorem dX13_habit_62 : decode cX13_habit 62 = .ok (.isub, 1) := by decide +kernel
theorem dX13_habit_63 : decode cX13_habit 63 = .ok (.iaload, 1) := by decide +kernel
theorem dX13_habit_64 : decode cX13_habit 64 = .ok (.iload_n 2, 1) := by decide +kernel
theorem dX13_habit_65 : decode cX13_habit 65 = .ok (.if_icmp .le 23, 3) := by decide +kernel
theorem dX13_habit_68 : decode cX13_habit 68 = .ok (.aload_n 0, 1) := by decide +kernel
theorem dX13_habit_69 : decode cX13_habit 69 = .ok (.getfield 244, 3) := by decide +kernel
theorem dX13_habit_72 : decode cX13_habit 72 = .ok (.iload_n 3, 1) := by decide +kernel
theorem dX13_habit_73 : decode cX13_habit 73 = .ok (.aload_n 0, 1) := by decide +kernel
theorem dX13_habit_74 : decode cX13_habit 74 = .ok (.getfield 244, 3) := by decide +kernel
theorem dX13_habit_77 : decode cX13_habit 77 = .ok (.iload_n 3, 1) := by decide +kernel
theorem dX13_habit_78 : decode cX13_habit 78 = .ok (.iconst 1, 1) := by decide +kernel
theorem dX13_habit_79 : decode cX13_habit 79 = .ok (.isub, 1) := by decide +kernel
theorem dX13_habit_80 : decode cX13_habit 80 = .ok (.iaload, 1) := by decide +kernel
theorem dX13_habit_81 : decode cX13_habit 81 = .ok (.iastore, 1) := by decide +kernel
theorem dX13_habit_82 : decode cX13_habit 82 = .ok (.iinc 3 (-1), 3) := by decide +kernel
theorem dX13_habit_85 : decode cX13_habit 85 = .ok (.goto (-37), 3) := by decide +kernel
theorem dX13_habit_88 : decode cX13_habit 88 = .ok (.aload_n 0, 1) := by decide +kernel
theorem dX13_habit_89 : decode cX13_habit 89 = .ok (.getfield 244, 3) := by decide +kernel
theorem dX13_habit_92 : decode cX13_habit 92 = .ok (.iload_n 3, 1) := by decide +kernel
theorem dX13_habit_93 : decode cX13_habit 93 = .ok (.iload_n 2, 1) := by decide +kernel
theorem dX13_habit_94 : decode cX13_habit 94 = .ok (.iastore, 1) := by decide +kernel
theorem dX13_habit_95 : decode cX13_habit 95 = .ok (.aload_n 0, 1) := by decide +kernel
theorem dX13_habit_96 : decode cX13_habit 96 = .ok (.getfield 241, 3) := by decide +kernel
theorem dX13_habit_99 : decode cX13_habit 99 = .ok (.iload_n 1, 1) := by decide +kernel
theorem dX13_habit_100 : decode cX13_habit 100 = .ok (.dup2, 1) := by decide +kernel
theorem dX13_habit_101 : decode cX13_habit 101 = .ok (.iaload, 1) := by decide +kernel
theorem dX13_habit_102 : decode cX13_habit 102 = .ok (.iconst 1, 1) := by decide +kernel
theorem dX13_habit_103 : decode cX13_habit 103 = .ok (.iadd, 1) := by decide +kernel
theorem dX13_habit_104 : decode cX13_habit 104 = .ok (.iastore, 1) := by decide +kernel
theorem dX13_habit_105 : decode cX13_habit 105 = .ok (.aload_n 0, 1) := by decide +kernel
theorem dX13_habit_106 : decode cX13_habit 106 = .ok (.getfield 241, 3) := by decide +kernel
theorem dX13_habit_109 : decode cX13_habit 109 = .ok (.iload_n 1, 1) := by decide +kernel
theorem dX13_habit_110 : decode cX13_habit 110 = .ok (.iaload, 1) := by decide +kernel
theorem dX13_habit_111 : decode cX13_habit 111 = .ok (.ireturn, 1) := by decide +kernel
noncomputable def tX13_habit_9 : qT (Int32 × qM) :=
  oC (.int (-2 : Int32)) (eI)
noncomputable def wX13_habit_9 (k : qM → Option (Int32 × qM)) : qT (Int32 × qM) := fun lo st m => match lo, st with
  | [_, _, _, _], [] => k m
  | _, _ => none
set_option maxRecDepth 20000 in
theorem sX13_habit_9 {C : qCx} {w : qWp} (h : qOk C w RX13 cX13_habit 4 2 155 155) (hm : qMt C (some .int)) (hx : qNx C) : qSnd C w 4 155 (qQf C w 155 155 jI) qfin 155 19 (tX13_habit_9) :=
  cB (pc := 19) h dX13_habit_19 rfl (zI (pc := 21) h hm (Nat.le_refl _) dX13_habit_21)
set_option maxRecDepth 20000 in
theorem lX13_habit_9 (m : qM) : tX13_habit_9 [none, none, none, none] [] m = fX13_habit_9 m := rfl
theorem bX13_habit_9 {C : qCx} {w : qWp} (h : qOk C w RX13 cX13_habit 4 2 155 155) (hm : qMt C (some .int)) (hx : qNx C) : qSnd C w 4 155 (qQf C w 155 155 jI) qfin 155 19 (wX13_habit_9 fX13_habit_9) :=
  qSnd_of (fun lo st m x hr0 => by
    unfold wX13_habit_9 at hr0
    split at hr0
    · exact ⟨_, (qsub_n (qsub_n (qsub_n (qsub_n qsub_nil)))), (lX13_habit_9 _).trans hr0⟩
    · cases hr0) (sX13_habit_9 h hm hx)
noncomputable def tX13_habit_28 (j53 : qT (Int32 × qM)) (j28 : qT (Int32 × qM)) : qT (Int32 × qM) :=
  oLi 3 (oC (.int (20 : Int32)) (oLi 1 (o2 (· * ·) (oCLe (j53) (oLa 0 (oGf 98 51 133 (oLi 3 (oC (.int (1 : Int32)) (o2 (· - ·) (oAi 133 200 (oLi 2 (oCLe (j53) (oLa 0 (oGf 98 51 133 (oLi 3 (oLa 0 (oGf 98 51 133 (oLi 3 (oC (.int (1 : Int32)) (o2 (· - ·) (oAi 133 200 (oWi 133 200 (oInc 3 (-1 : Int32) (j28))))))))))))))))))))))))
noncomputable def wX13_habit_28 (k : Int32 → Int32 → Int32 → qM → Option (Int32 × qM)) : qT (Int32 × qM) := fun lo st m => match lo, st with
  | [some (.ref 98), some (.int a1), some (.int a2), some (.int a3)], [] => k a1 a2 a3 m
  | _, _ => none
noncomputable def wX13_habit_53 (k : Int32 → Int32 → Int32 → qM → Option (Int32 × qM)) : qT (Int32 × qM) := fun lo st m => match lo, st with
  | [some (.ref 98), some (.int a1), some (.int a2), some (.int a3)], [] => k a1 a2 a3 m
  | _, _ => none
set_option maxRecDepth 20000 in
theorem sX13_habit_28 {C : qCx} {w : qWp} (h : qOk C w RX13 cX13_habit 4 2 155 155) (hm : qMt C (some .int)) (hx : qNx C) {j53 : qT (Int32 × qM)} {j28 : qT (Int32 × qM)} (k53 : qSnd C w 4 155 (qQf C w 155 155 jI) qfin 155 88 j53) (k28 : qSnd C w 4 155 (qQf C w 155 155 jI) qfin 155 48 j28) : qSnd C w 4 155 (qQf C w 155 155 jI) qfin 155 48 (tX13_habit_28 j53 j28) :=
  cLi (pc := 48) h dX13_habit_48 rfl (cB (pc := 49) h dX13_habit_49 rfl (cLi (pc := 51) h dX13_habit_51 rfl (aMul (pc := 52) h dX13_habit_52 (jCLe (pc := 53) h dX13_habit_53 rfl (k53) (cLa (pc := 56) h dX13_habit_56 rfl (gGf (pc := 57) h dX13_habit_57 ff_X13_244_98 (Nat.le_of_ble_eq_true rfl) (Nat.le_of_ble_eq_true rfl) rfl (cLi (pc := 60) h dX13_habit_60 rfl (cC (pc := 61) h dX13_habit_61 rfl (aSub (pc := 62) h dX13_habit_62 (rAi (pc := 63) h dX13_habit_63 rfl (Nat.le_of_ble_eq_true rfl) (Nat.le_of_ble_eq_true rfl) (cLi (pc := 64) h dX13_habit_64 rfl (jCLe (pc := 65) h dX13_habit_65 rfl (k53) (cLa (pc := 68) h dX13_habit_68 rfl (gGf (pc := 69) h dX13_habit_69 ff_X13_244_98 (Nat.le_of_ble_eq_true rfl) (Nat.le_of_ble_eq_true rfl) rfl (cLi (pc := 72) h dX13_habit_72 rfl (cLa (pc := 73) h dX13_habit_73 rfl (gGf (pc := 74) h dX13_habit_74 ff_X13_244_98 (Nat.le_of_ble_eq_true rfl) (Nat.le_of_ble_eq_true rfl) rfl (cLi (pc := 77) h dX13_habit_77 rfl (cC (pc := 78) h dX13_habit_78 rfl (aSub (pc := 79) h dX13_habit_79 (rAi (pc := 80) h dX13_habit_80 rfl (Nat.le_of_ble_eq_true rfl) (Nat.le_of_ble_eq_true rfl) (rWi (pc := 81) h dX13_habit_81 rfl (Nat.le_of_ble_eq_true rfl) (Nat.le_of_ble_eq_true rfl) (cInc (pc := 82) h dX13_habit_82 rfl (jGo (pc := 85) h dX13_habit_85 rfl (k28)))))))))))))))))))))))))
set_option maxRecDepth 20000 in
theorem lX13_habit_28 (k53 : Int32 → Int32 → Int32 → qM → Option (Int32 × qM)) (n : Nat) (a1 : Int32) (a2 : Int32) (a3 : Int32) (m : qM) : tX13_habit_28 (wX13_habit_53 k53) (wX13_habit_28 ((fX13_habit_28 k53 n))) [some (.ref 98), some (.int a1), some (.int a2), some (.int a3)] [] m = fX13_habit_28 k53 (n + 1) a1 a2 a3 m := rfl
theorem bX13_habit_28 {C : qCx} {w : qWp} (h : qOk C w RX13 cX13_habit 4 2 155 155) (hm : qMt C (some .int)) (hx : qNx C) {k53 : Int32 → Int32 → Int32 → qM → Option (Int32 × qM)} (h53 : qSnd C w 4 155 (qQf C w 155 155 jI) qfin 155 88 (wX13_habit_53 k53)) : ∀ n : Nat, qSnd C w 4 155 (qQf C w 155 155 jI) qfin 155 48 (wX13_habit_28 (fX13_habit_28 k53 n))
  | 0 => qSnd_of0 (fun lo st m x hr0 => by
    unfold wX13_habit_28 at hr0
    split at hr0
    · cases hr0
    · cases hr0)
  | n + 1 => by
    have ih := bX13_habit_28 h hm hx h53 n
    exact qSnd_of (fun lo st m x hr0 => by
    unfold wX13_habit_28 at hr0
    split at hr0
    · exact ⟨_, (qsub_e (qsub_e (qsub_e (qsub_e qsub_nil)))), (lX13_habit_28 _ n _ _ _ _).trans hr0⟩
    · cases hr0) (sX13_habit_28 h hm hx h53 ih)
noncomputable def tX13_habit_53 : qT (Int32 × qM) :=
  oLa 0 (oGf 98 51 133 (oLi 3 (oLi 2 (oWi 133 200 (oLa 0 (oGf 98 50 132 (oLi 1 (oDup2 (oAi 132 10 (oC (.int (1 : Int32)) (o2 (· + ·) (oWi 132 10 (oLa 0 (oGf 98 50 132 (oLi 1 (oAi 132 10 (eI)))))))))))))))))
set_option maxRecDepth 20000 in
theorem sX13_habit_53 {C : qCx} {w : qWp} (h : qOk C w RX13 cX13_habit 4 2 155 155) (hm : qMt C (some .int)) (hx : qNx C) : qSnd C w 4 155 (qQf C w 155 155 jI) qfin 155 88 (tX13_habit_53) :=
  cLa (pc := 88) h dX13_habit_88 rfl (gGf (pc := 89) h dX13_habit_89 ff_X13_244_98 (Nat.le_of_ble_eq_true rfl) (Nat.le_of_ble_eq_true rfl) rfl (cLi (pc := 92) h dX13_habit_92 rfl (cLi (pc := 93) h dX13_habit_93 rfl (rWi (pc := 94) h dX13_habit_94 rfl (Nat.le_of_ble_eq_true rfl) (Nat.le_of_ble_eq_true rfl) (cLa (pc := 95) h dX13_habit_95 rfl (gGf (pc := 96) h dX13_habit_96 ff_X13_241_98 (Nat.le_of_ble_eq_true rfl) (Nat.le_of_ble_eq_true rfl) rfl (cLi (pc := 99) h dX13_habit_99 rfl (aDup2 (pc := 100) h dX13_habit_100 (rAi (pc := 101) h dX13_habit_101 rfl (Nat.le_of_ble_eq_true rfl) (Nat.le_of_ble_eq_true rfl) (cC (pc := 102) h dX13_habit_102 rfl (aAdd (pc := 103) h dX13_habit_103 (rWi (pc := 104) h dX13_habit_104 rfl (Nat.le_of_ble_eq_true rfl) (Nat.le_of_ble_eq_true rfl) (cLa (pc := 105) h dX13_habit_105 rfl (gGf (pc := 106) h dX13_habit_106 ff_X13_241_98 (Nat.le_of_ble_eq_true rfl) (Nat.le_of_ble_eq_true rfl) rfl (cLi (pc := 109) h dX13_habit_109 rfl (rAi (pc := 110) h dX13_habit_110 rfl (Nat.le_of_ble_eq_true rfl) (Nat.le_of_ble_eq_true rfl) (zI (pc := 111) h hm (Nat.le_refl _) dX13_habit_111)))))))))))))))))
set_option maxRecDepth 20000 in
theorem lX13_habit_53 (a1 : Int32) (a2 : Int32) (a3 : Int32) (m : qM) : tX13_habit_53 [some (.ref 98), some (.int a1), some (.int a2), some (.int a3)] [] m = fX13_habit_53 a1 a2 a3 m := rfl
theorem bX13_habit_53 {C : qCx} {w : qWp} (h : qOk C w RX13 cX13_habit 4 2 155 155) (hm : qMt C (some .int)) (hx : qNx C) : qSnd C w 4 155 (qQf C w 155 155 jI) qfin 155 88 (wX13_habit_53 fX13_habit_53) :=
  qSnd_of (fun lo st m x hr0 => by
    unfold wX13_habit_53 at hr0
    split at hr0
    · exact ⟨_, (qsub_e (qsub_e (qsub_e (qsub_e qsub_nil)))), (lX13_habit_53 _ _ _ _).trans hr0⟩
    · cases hr0) (sX13_habit_53 h hm hx)
noncomputable def tX13_habit_0 (j9 : qT (Int32 × qM)) (j28 : qT (Int32 × qM)) : qT (Int32 × qM) :=
  oLi 1 (oCi GX13_isTeacher 1 (oEq (j9) (oLi 2 (oI2l (oC (.long (0 : Int64)) (oC (.long (60 : Int64)) (oCi GX13_in 3 (oEq (j9) (oLa 0 (oGf 98 50 132 (oLi 1 (oAi 132 10 (oC (.int (20 : Int32)) (oCEq (oC (.int (-3 : Int32)) (eI)) (oC (.int (20 : Int32)) (oLi 1 (o2 (· * ·) (oLa 0 (oGf 98 50 132 (oLi 1 (oAi 132 10 (o2 (· + ·) (oSi 3 (j28))))))))))))))))))))))))
set_option maxRecDepth 20000 in
theorem sX13_habit_0 {C : qCx} {w : qWp} (h : qOk C w RX13 cX13_habit 4 2 155 155) (hm : qMt C (some .int)) (hx : qNx C) {j9 : qT (Int32 × qM)} {j28 : qT (Int32 × qM)} (k9 : qSnd C w 4 155 (qQf C w 155 155 jI) qfin 155 19 j9) (k28 : qSnd C w 4 155 (qQf C w 155 155 jI) qfin 155 48 j28) : qSnd C w 4 155 (qQf C w 155 155 jI) qfin 155 0 (tX13_habit_0 j9 j28) :=
  cLi (pc := 0) h dX13_habit_0 rfl (kCi (pc := 1) h (kd_X13_340 h dX13_habit_1) spX13_isTeacher (by decide) (by decide) (by decide) (by decide) (jEq (pc := 4) h dX13_habit_4 rfl (k9) (cLi (pc := 7) h dX13_habit_7 rfl (aI2l (pc := 8) h dX13_habit_8 (cJ (pc := 9) h dX13_habit_9 rfl (cKJ (pc := 10) h dX13_habit_10 fc_X13_442 (kCi (pc := 13) h (kd_X13_66 h dX13_habit_13) spX13_in (by decide) (by decide) (by decide) (by decide) (jNe (pc := 16) h dX13_habit_16 rfl (cLa (pc := 22) h dX13_habit_22 rfl (gGf (pc := 23) h dX13_habit_23 ff_X13_241_98 (Nat.le_of_ble_eq_true rfl) (Nat.le_of_ble_eq_true rfl) rfl (cLi (pc := 26) h dX13_habit_26 rfl (rAi (pc := 27) h dX13_habit_27 rfl (Nat.le_of_ble_eq_true rfl) (Nat.le_of_ble_eq_true rfl) (cB (pc := 28) h dX13_habit_28 rfl (jCNe (pc := 30) h dX13_habit_30 rfl (cB (pc := 36) h dX13_habit_36 rfl (cLi (pc := 38) h dX13_habit_38 rfl (aMul (pc := 39) h dX13_habit_39 (cLa (pc := 40) h dX13_habit_40 rfl (gGf (pc := 41) h dX13_habit_41 ff_X13_241_98 (Nat.le_of_ble_eq_true rfl) (Nat.le_of_ble_eq_true rfl) rfl (cLi (pc := 44) h dX13_habit_44 rfl (rAi (pc := 45) h dX13_habit_45 rfl (Nat.le_of_ble_eq_true rfl) (Nat.le_of_ble_eq_true rfl) (aAdd (pc := 46) h dX13_habit_46 (cSi (pc := 47) h dX13_habit_47 rfl (k28)))))))))) (cB (pc := 33) h dX13_habit_33 rfl (zI (pc := 35) h hm (Nat.le_refl _) dX13_habit_35)))))))) (k9)))))))))
set_option maxRecDepth 20000 in
theorem lX13_habit_0 (a1 : Int32) (a2 : Int32) (m : qM) : tX13_habit_0 (wX13_habit_9 fX13_habit_9) (wX13_habit_28 (fX13_habit_28 fX13_habit_53 FU)) [some (.ref 98), some (.int a1), some (.int a2), none] [] m = fX13_habit_0 a1 a2 m := rfl
noncomputable def GX13_habit : qG Int32 := fun av m => match av with
  | [.ref 98, .int a1, .int a2] => fX13_habit a1 a2 m
  | _ => none
theorem spX13_habit : qSpI yX13_habit (.code yX13_habit cX13_habit 4 (some .int)) 2 qfin 155 155 1 GX13_habit := by
  intro av m x m' hG
  unfold GX13_habit at hG
  split at hG
  · rename_i a1 a2
    rw [fX13_habit_d] at hG
    exact ⟨qmeet (J := jI) (r := (x, m')) (av := [.ref 98, .int a1, .int a2]) (by decide +kernel) (Nat.le_of_ble_eq_true rfl) (fun C w h hm hx hn => sX13_habit_0 h hm hx (bX13_habit_9 h hm hx) (bX13_habit_28 h hm hx (bX13_habit_53 h hm hx) FU)) ((lX13_habit_0 _ _ _).trans hG) (Nat.le_of_ble_eq_true rfl), Or.inl ⟨98, _, 13, _, _, rfl, by decide, rfl, qCk_13, rfl⟩⟩
  · cases hG
theorem dX13_foretoldOf_0 : decode cX13_foretoldOf 0 = .ok (.aload_n 0, 1) := by decide +kernel
theorem dX13_foretoldOf_1 : decode cX13_foretoldOf 1 = .ok (.getfield 241, 3) := by decide +kernel
theorem dX13_foretoldOf_4 : decode cX13_foretoldOf 4 = .ok (.iload_n 1, 1) := by decide +kernel
theorem dX13_foretoldOf_5 : decode cX13_foretoldOf 5 = .ok (.iaload, 1) := by decide +kernel
theorem dX13_foretoldOf_6 : decode cX13_foretoldOf 6 = .ok (.ifCond .ne 7, 3) := by decide +kernel
theorem dX13_foretoldOf_9 : decode cX13_foretoldOf 9 = .ok (.iconst 0, 1) := by decide +kernel
theorem dX13_foretoldOf_10 : decode cX13_foretoldOf 10 = .ok (.goto 23, 3) := by decide +kernel
theorem dX13_foretoldOf_13 : decode cX13_foretoldOf 13 = .ok (.aload_n 0, 1) := by decide +kernel
theorem dX13_foretoldOf_14 : decode cX13_foretoldOf 14 = .ok (.getfield 244, 3) := by decide +kernel
theorem dX13_foretoldOf_17 : decode cX13_foretoldOf 17 = .ok (.bipush 20, 2) := by decide +kernel
theorem dX13_foretoldOf_19 : decode cX13_foretoldOf 19 = .ok (.iload_n 1, 1) := by decide +kernel
theorem dX13_foretoldOf_20 : decode cX13_foretoldOf 20 = .ok (.imul, 1) := by decide +kernel
theorem dX13_foretoldOf_21 : decode cX13_foretoldOf 21 = .ok (.aload_n 0, 1) := by decide +kernel
theorem dX13_foretoldOf_22 : decode cX13_foretoldOf 22 = .ok (.getfield 241, 3) := by decide +kernel
theorem dX13_foretoldOf_25 : decode cX13_foretoldOf 25 = .ok (.iload_n 1, 1) := by decide +kernel
theorem dX13_foretoldOf_26 : decode cX13_foretoldOf 26 = .ok (.iaload, 1) := by decide +kernel
theorem dX13_foretoldOf_27 : decode cX13_foretoldOf 27 = .ok (.iconst 1, 1) := by decide +kernel
theorem dX13_foretoldOf_28 : decode cX13_foretoldOf 28 = .ok (.isub, 1) := by decide +kernel
theorem dX13_foretoldOf_29 : decode cX13_foretoldOf 29 = .ok (.iconst 2, 1) := by decide +kernel
theorem dX13_foretoldOf_30 : decode cX13_foretoldOf 30 = .ok (.idiv, 1) := by decide +kernel
theorem dX13_foretoldOf_31 : decode cX13_foretoldOf 31 = .ok (.iadd, 1) := by decide +kernel
theorem dX13_foretoldOf_32 : decode cX13_foretoldOf 32 = .ok (.iaload, 1) := by decide +kernel
theorem dX13_foretoldOf_33 : decode cX13_foretoldOf 33 = .ok (.ireturn, 1) := by decide +kernel
noncomputable def tX13_foretoldOf_22 : qT (Int32 × qM) :=
  eI
noncomputable def wX13_foretoldOf_22 (k : Int32 → qM → Option (Int32 × qM)) : qT (Int32 × qM) := fun lo st m => match lo, st with
  | [_, _], [.int s0] => k s0 m
  | _, _ => none
set_option maxRecDepth 20000 in
theorem sX13_foretoldOf_22 {C : qCx} {w : qWp} (h : qOk C w RX13 cX13_foretoldOf 2 0 155 155) (hm : qMt C (some .int)) (hx : qNx C) : qSnd C w 2 155 (qQf C w 155 155 jI) qfin 155 33 (tX13_foretoldOf_22) :=
  zI (pc := 33) h hm (Nat.le_refl _) dX13_foretoldOf_33
set_option maxRecDepth 20000 in
theorem lX13_foretoldOf_22 (s0 : Int32) (m : qM) : tX13_foretoldOf_22 [none, none] [(.int s0)] m = fX13_foretoldOf_22 s0 m := rfl
theorem bX13_foretoldOf_22 {C : qCx} {w : qWp} (h : qOk C w RX13 cX13_foretoldOf 2 0 155 155) (hm : qMt C (some .int)) (hx : qNx C) : qSnd C w 2 155 (qQf C w 155 155 jI) qfin 155 33 (wX13_foretoldOf_22 fX13_foretoldOf_22) :=
  qSnd_of (fun lo st m x hr0 => by
    unfold wX13_foretoldOf_22 at hr0
    split at hr0
    · exact ⟨_, (qsub_n (qsub_n qsub_nil)), (lX13_foretoldOf_22 _ _).trans hr0⟩
    · cases hr0) (sX13_foretoldOf_22 h hm hx)
noncomputable def tX13_foretoldOf_0 (j22 : qT (Int32 × qM)) : qT (Int32 × qM) :=
  oLa 0 (oGf 98 50 132 (oLi 1 (oAi 132 10 (oEq (oC (.int (0 : Int32)) (j22)) (oLa 0 (oGf 98 51 133 (oC (.int (20 : Int32)) (oLi 1 (o2 (· * ·) (oLa 0 (oGf 98 50 132 (oLi 1 (oAi 132 10 (oC (.int (1 : Int32)) (o2 (· - ·) (oC (.int (2 : Int32)) (oDiv (o2 (· + ·) (oAi 133 200 (j22))))))))))))))))))))
set_option maxRecDepth 20000 in
theorem sX13_foretoldOf_0 {C : qCx} {w : qWp} (h : qOk C w RX13 cX13_foretoldOf 2 0 155 155) (hm : qMt C (some .int)) (hx : qNx C) {j22 : qT (Int32 × qM)} (k22 : qSnd C w 2 155 (qQf C w 155 155 jI) qfin 155 33 j22) : qSnd C w 2 155 (qQf C w 155 155 jI) qfin 155 0 (tX13_foretoldOf_0 j22) :=
  cLa (pc := 0) h dX13_foretoldOf_0 rfl (gGf (pc := 1) h dX13_foretoldOf_1 ff_X13_241_98 (Nat.le_of_ble_eq_true rfl) (Nat.le_of_ble_eq_true rfl) rfl (cLi (pc := 4) h dX13_foretoldOf_4 rfl (rAi (pc := 5) h dX13_foretoldOf_5 rfl (Nat.le_of_ble_eq_true rfl) (Nat.le_of_ble_eq_true rfl) (jNe (pc := 6) h dX13_foretoldOf_6 rfl (cLa (pc := 13) h dX13_foretoldOf_13 rfl (gGf (pc := 14) h dX13_foretoldOf_14 ff_X13_244_98 (Nat.le_of_ble_eq_true rfl) (Nat.le_of_ble_eq_true rfl) rfl (cB (pc := 17) h dX13_foretoldOf_17 rfl (cLi (pc := 19) h dX13_foretoldOf_19 rfl (aMul (pc := 20) h dX13_foretoldOf_20 (cLa (pc := 21) h dX13_foretoldOf_21 rfl (gGf (pc := 22) h dX13_foretoldOf_22 ff_X13_241_98 (Nat.le_of_ble_eq_true rfl) (Nat.le_of_ble_eq_true rfl) rfl (cLi (pc := 25) h dX13_foretoldOf_25 rfl (rAi (pc := 26) h dX13_foretoldOf_26 rfl (Nat.le_of_ble_eq_true rfl) (Nat.le_of_ble_eq_true rfl) (cC (pc := 27) h dX13_foretoldOf_27 rfl (aSub (pc := 28) h dX13_foretoldOf_28 (cC (pc := 29) h dX13_foretoldOf_29 rfl (aDiv (pc := 30) h dX13_foretoldOf_30 (aAdd (pc := 31) h dX13_foretoldOf_31 (rAi (pc := 32) h dX13_foretoldOf_32 rfl (Nat.le_of_ble_eq_true rfl) (Nat.le_of_ble_eq_true rfl) (k22)))))))))))))))) (cC (pc := 9) h dX13_foretoldOf_9 rfl (jGo (pc := 10) h dX13_foretoldOf_10 rfl (k22)))))))
set_option maxRecDepth 20000 in
theorem lX13_foretoldOf_0 (a1 : Int32) (m : qM) : tX13_foretoldOf_0 (wX13_foretoldOf_22 fX13_foretoldOf_22) [some (.ref 98), some (.int a1)] [] m = fX13_foretoldOf_0 a1 m := rfl
noncomputable def GX13_foretoldOf : qG Int32 := fun av m => match av with
  | [.ref 98, .int a1] => fX13_foretoldOf a1 m
  | _ => none
theorem spX13_foretoldOf : qSpI yX13_foretoldOf (.code yX13_foretoldOf cX13_foretoldOf 2 (some .int)) 0 qfin 155 155 1 GX13_foretoldOf := by
  intro av m x m' hG
  unfold GX13_foretoldOf at hG
  split at hG
  · rename_i a1
    rw [fX13_foretoldOf_d] at hG
    exact ⟨qmeet (J := jI) (r := (x, m')) (av := [.ref 98, .int a1]) (by decide +kernel) (Nat.le_of_ble_eq_true rfl) (fun C w h hm hx hn => sX13_foretoldOf_0 h hm hx (bX13_foretoldOf_22 h hm hx)) ((lX13_foretoldOf_0 _ _).trans hG) (Nat.le_of_ble_eq_true rfl), Or.inl ⟨98, _, 13, _, _, rfl, by decide, rfl, qCk_13, rfl⟩⟩
  · cases hG
theorem im_X13_foretoldOf : Jvm.Cond.instanceMethod yX13_foretoldOf ∈ qTw := qm9 (List.mem_of_getElem? (i := 11) (by decide +kernel)) (by decide +kernel)
theorem se_X13_foretoldOf : Jvm.Cond.selects yX13_foretoldOf.cls yX13_foretoldOf yX13_foretoldOf ∈ qTw := List.mem_filter.mpr ⟨List.mem_append_left _ (List.mem_of_getElem? (i := 67) (by decide +kernel)), rfl⟩
theorem co_X13_foretoldOf : Jvm.Cond.code yX13_foretoldOf cX13_foretoldOf 2 (some .int) ∈ qTw := qm9 (List.mem_of_getElem? (i := 12) (by decide +kernel)) (by decide +kernel)
theorem yk_X13_foretoldOf : qYk yX13_foretoldOf 1 := ⟨⟨by decide +kernel, by decide +kernel⟩, by decide +kernel⟩
theorem ml_X13_444 : Jvm.Cond.methodLink RX13 444 yX13_foretoldOf ∈ qTw := qm9 (List.mem_of_getElem? (i := 9) (by decide +kernel)) (by decide +kernel)
theorem kd_X13_444 {C : qCx} {w : qWp} {cc : ByteArray} {nL dp n0 n1 pc : Nat} (h : qOk C w RX13 cc nL dp n0 n1) (d : decode cc pc = .ok (.invokevirtual 444, 3)) : qCallOk C w nL dp n0 n1 pc 2 1 yX13_foretoldOf (.code yX13_foretoldOf cX13_foretoldOf 2 (some .int)) := kindV h d ml_X13_444 im_X13_foretoldOf se_X13_foretoldOf in_ParentEveModel co_X13_foretoldOf yk_X13_foretoldOf (by decide)
theorem dX13_foretold_0 : decode cX13_foretold 0 = .ok (.iload_n 1, 1) := by decide +kernel
theorem dX13_foretold_1 : decode cX13_foretold 1 = .ok (.invokestatic 340, 3) := by decide +kernel
theorem dX13_foretold_4 : decode cX13_foretold 4 = .ok (.ifCond .eq 11, 3) := by decide +kernel
theorem dX13_foretold_7 : decode cX13_foretold 7 = .ok (.aload_n 0, 1) := by decide +kernel
theorem dX13_foretold_8 : decode cX13_foretold 8 = .ok (.iload_n 1, 1) := by decide +kernel
theorem dX13_foretold_9 : decode cX13_foretold 9 = .ok (.invokevirtual 444, 3) := by decide +kernel
theorem dX13_foretold_12 : decode cX13_foretold 12 = .ok (.goto 5, 3) := by decide +kernel
theorem dX13_foretold_15 : decode cX13_foretold 15 = .ok (.bipush (-2), 2) := by decide +kernel
theorem dX13_foretold_17 : decode cX13_foretold 17 = .ok (.ireturn, 1) := by decide +kernel
noncomputable def tX13_foretold_8 : qT (Int32 × qM) :=
  eI
noncomputable def wX13_foretold_8 (k : Int32 → qM → Option (Int32 × qM)) : qT (Int32 × qM) := fun lo st m => match lo, st with
  | [_, _], [.int s0] => k s0 m
  | _, _ => none
set_option maxRecDepth 20000 in
theorem sX13_foretold_8 {C : qCx} {w : qWp} (h : qOk C w RX13 cX13_foretold 2 2 155 155) (hm : qMt C (some .int)) (hx : qNx C) : qSnd C w 2 155 (qQf C w 155 155 jI) qfin 155 17 (tX13_foretold_8) :=
  zI (pc := 17) h hm (Nat.le_refl _) dX13_foretold_17
set_option maxRecDepth 20000 in
theorem lX13_foretold_8 (s0 : Int32) (m : qM) : tX13_foretold_8 [none, none] [(.int s0)] m = fX13_foretold_8 s0 m := rfl
theorem bX13_foretold_8 {C : qCx} {w : qWp} (h : qOk C w RX13 cX13_foretold 2 2 155 155) (hm : qMt C (some .int)) (hx : qNx C) : qSnd C w 2 155 (qQf C w 155 155 jI) qfin 155 17 (wX13_foretold_8 fX13_foretold_8) :=
  qSnd_of (fun lo st m x hr0 => by
    unfold wX13_foretold_8 at hr0
    split at hr0
    · exact ⟨_, (qsub_n (qsub_n qsub_nil)), (lX13_foretold_8 _ _).trans hr0⟩
    · cases hr0) (sX13_foretold_8 h hm hx)
noncomputable def tX13_foretold_0 (j8 : qT (Int32 × qM)) : qT (Int32 × qM) :=
  oLi 1 (oCi GX13_isTeacher 1 (oEq (oC (.int (-2 : Int32)) (j8)) (oLa 0 (oLi 1 (oCi GX13_foretoldOf 2 (j8))))))
set_option maxRecDepth 20000 in
theorem sX13_foretold_0 {C : qCx} {w : qWp} (h : qOk C w RX13 cX13_foretold 2 2 155 155) (hm : qMt C (some .int)) (hx : qNx C) {j8 : qT (Int32 × qM)} (k8 : qSnd C w 2 155 (qQf C w 155 155 jI) qfin 155 17 j8) : qSnd C w 2 155 (qQf C w 155 155 jI) qfin 155 0 (tX13_foretold_0 j8) :=
  cLi (pc := 0) h dX13_foretold_0 rfl (kCi (pc := 1) h (kd_X13_340 h dX13_foretold_1) spX13_isTeacher (by decide) (by decide) (by decide) (by decide) (jEq (pc := 4) h dX13_foretold_4 rfl (cB (pc := 15) h dX13_foretold_15 rfl (k8)) (cLa (pc := 7) h dX13_foretold_7 rfl (cLi (pc := 8) h dX13_foretold_8 rfl (kCi (pc := 9) h (kd_X13_444 h dX13_foretold_9) spX13_foretoldOf (by decide) (by decide) (by decide) (by decide) (jGo (pc := 12) h dX13_foretold_12 rfl (k8)))))))
set_option maxRecDepth 20000 in
theorem lX13_foretold_0 (a1 : Int32) (m : qM) : tX13_foretold_0 (wX13_foretold_8 fX13_foretold_8) [some (.ref 98), some (.int a1)] [] m = fX13_foretold_0 a1 m := rfl
noncomputable def GX13_foretold : qG Int32 := fun av m => match av with
  | [.ref 98, .int a1] => fX13_foretold a1 m
  | _ => none
theorem spX13_foretold : qSpI yX13_foretold (.code yX13_foretold cX13_foretold 2 (some .int)) 2 qfin 155 155 1 GX13_foretold := by
  intro av m x m' hG
  unfold GX13_foretold at hG
  split at hG
  · rename_i a1
    rw [fX13_foretold_d] at hG
    exact ⟨qmeet (J := jI) (r := (x, m')) (av := [.ref 98, .int a1]) (by decide +kernel) (Nat.le_of_ble_eq_true rfl) (fun C w h hm hx hn => sX13_foretold_0 h hm hx (bX13_foretold_8 h hm hx)) ((lX13_foretold_0 _ _).trans hG) (Nat.le_of_ble_eq_true rfl), Or.inl ⟨98, _, 13, _, _, rfl, by decide, rfl, qCk_13, rfl⟩⟩
  · cases hG
theorem dX13_begin_0 : decode cX13_begin 0 = .ok (.aload_n 0, 1) := by decide +kernel
theorem dX13_begin_1 : decode cX13_begin 1 = .ok (.getfield 316, 3) := by decide +kernel
theorem dX13_begin_4 : decode cX13_begin 4 = .ok (.ifCond .eq 6, 3) := by decide +kernel
theorem dX13_begin_7 : decode cX13_begin 7 = .ok (.bipush (-4), 2) := by decide +kernel
theorem dX13_begin_9 : decode cX13_begin 9 = .ok (.ireturn, 1) := by decide +kernel
theorem dX13_begin_10 : decode cX13_begin 10 = .ok (.aload_n 0, 1) := by decide +kernel
theorem dX13_begin_11 : decode cX13_begin 11 = .ok (.iconst 1, 1) := by decide +kernel
theorem dX13_begin_12 : decode cX13_begin 12 = .ok (.putfield 316, 3) := by decide +kernel
theorem dX13_begin_15 : decode cX13_begin 15 = .ok (.aload_n 0, 1) := by decide +kernel
theorem dX13_begin_16 : decode cX13_begin 16 = .ok (.invokevirtual 320, 3) := by decide +kernel
theorem dX13_begin_19 : decode cX13_begin 19 = .ok (.ireturn, 1) := by decide +kernel
noncomputable def tX13_begin_0 : qT (Int32 × qM) :=
  oLa 0 (oGi 98 33 (oEq (oLa 0 (oC (.int (1 : Int32)) (oPz 98 33 (oLa 0 (oCi GX13_laidMany 1 (eI)))))) (oC (.int (-4 : Int32)) (eI))))
set_option maxRecDepth 20000 in
theorem sX13_begin_0 {C : qCx} {w : qWp} (h : qOk C w RX13 cX13_begin 1 1 155 155) (hm : qMt C (some .int)) (hx : qNx C) : qSnd C w 1 155 (qQf C w 155 155 jI) qfin 155 0 (tX13_begin_0) :=
  cLa (pc := 0) h dX13_begin_0 rfl (gGz (pc := 1) h dX13_begin_1 ff_X13_316_98 (Nat.le_of_ble_eq_true rfl) (Nat.le_of_ble_eq_true rfl) (jEq (pc := 4) h dX13_begin_4 rfl (cLa (pc := 10) h dX13_begin_10 rfl (cC (pc := 11) h dX13_begin_11 rfl (gPz (pc := 12) h dX13_begin_12 ff_X13_316_98 (Or.inl rfl) (Nat.le_of_ble_eq_true rfl) (Nat.le_of_ble_eq_true rfl) (cLa (pc := 15) h dX13_begin_15 rfl (kCi (pc := 16) h (kd_X13_320 h dX13_begin_16) spX13_laidMany (by decide) (by decide) (by decide) (by decide) (zI (pc := 19) h hm (Nat.le_refl _) dX13_begin_19)))))) (cB (pc := 7) h dX13_begin_7 rfl (zI (pc := 9) h hm (Nat.le_refl _) dX13_begin_9))))
set_option maxRecDepth 20000 in
theorem lX13_begin_0 (m : qM) : tX13_begin_0 [some (.ref 98)] [] m = fX13_begin_0 m := rfl
noncomputable def GX13_begin : qG Int32 := fun av m => match av with
  | [.ref 98] => fX13_begin m
  | _ => none
theorem spX13_begin : qSpI yX13_begin (.code yX13_begin cX13_begin 1 (some .int)) 1 qfin 155 155 1 GX13_begin := by
  intro av m x m' hG
  unfold GX13_begin at hG
  split at hG
  · rw [fX13_begin_d] at hG
    exact ⟨qmeet (J := jI) (r := (x, m')) (av := [.ref 98]) (by decide +kernel) (Nat.le_of_ble_eq_true rfl) (fun C w h hm hx hn => sX13_begin_0 h hm hx) ((lX13_begin_0 _).trans hG) (Nat.le_of_ble_eq_true rfl), Or.inl ⟨98, _, 13, _, _, rfl, by decide, rfl, qCk_13, rfl⟩⟩
  · cases hG
theorem fc_X13_447 : Jvm.Cond.constantLong RX13 447 (799 : Int64) ∈ qTw := qm9 (List.mem_of_getElem? (i := 29) (by decide +kernel)) (by decide +kernel)
theorem dX13_isMinute_0 : decode cX13_isMinute 0 = .ok (.iload_n 1, 1) := by decide +kernel
theorem dX13_isMinute_1 : decode cX13_isMinute 1 = .ok (.i2l, 1) := by decide +kernel
theorem dX13_isMinute_2 : decode cX13_isMinute 2 = .ok (.lconst 0, 1) := by decide +kernel
theorem dX13_isMinute_3 : decode cX13_isMinute 3 = .ok (.ldc2_w 447, 3) := by decide +kernel
theorem dX13_isMinute_6 : decode cX13_isMinute 6 = .ok (.invokestatic 66, 3) := by decide +kernel
theorem dX13_isMinute_9 : decode cX13_isMinute 9 = .ok (.ireturn, 1) := by decide +kernel
noncomputable def tX13_isMinute_0 : qT (Int32 × qM) :=
  oLi 1 (oI2l (oC (.long (0 : Int64)) (oC (.long (799 : Int64)) (oCi GX13_in 3 (eZ)))))
set_option maxRecDepth 20000 in
theorem sX13_isMinute_0 {C : qCx} {w : qWp} (h : qOk C w RX13 cX13_isMinute 2 1 155 155) (hm : qMt C (some .boolean)) (hx : qNx C) : qSnd C w 2 155 (qQf C w 155 155 jI) qfin 155 0 (tX13_isMinute_0) :=
  cLi (pc := 0) h dX13_isMinute_0 rfl (aI2l (pc := 1) h dX13_isMinute_1 (cJ (pc := 2) h dX13_isMinute_2 rfl (cKJ (pc := 3) h dX13_isMinute_3 fc_X13_447 (kCi (pc := 6) h (kd_X13_66 h dX13_isMinute_6) spX13_in (by decide) (by decide) (by decide) (by decide) (zZ (pc := 9) h hm (Nat.le_refl _) dX13_isMinute_9)))))
set_option maxRecDepth 20000 in
theorem lX13_isMinute_0 (a1 : Int32) (m : qM) : tX13_isMinute_0 [some (.ref 98), some (.int a1)] [] m = fX13_isMinute_0 a1 m := rfl
noncomputable def GX13_isMinute : qG Int32 := fun av m => match av with
  | [.ref 98, .int a1] => fX13_isMinute a1 m
  | _ => none
theorem spX13_isMinute : qSpI yX13_isMinute (.code yX13_isMinute cX13_isMinute 2 (some .boolean)) 1 qfin 155 155 1 GX13_isMinute := by
  intro av m x m' hG
  unfold GX13_isMinute at hG
  split at hG
  · rename_i a1
    rw [fX13_isMinute_d] at hG
    exact ⟨qmeet (J := jI) (r := (x, m')) (av := [.ref 98, .int a1]) (by decide +kernel) (Nat.le_of_ble_eq_true rfl) (fun C w h hm hx hn => sX13_isMinute_0 h hm hx) ((lX13_isMinute_0 _ _).trans hG) (Nat.le_of_ble_eq_true rfl), Or.inl ⟨98, _, 13, _, _, rfl, by decide, rfl, qCk_13, rfl⟩⟩
  · cases hG
theorem im_X13_isMinute : Jvm.Cond.instanceMethod yX13_isMinute ∈ qTw := qm9 (List.mem_of_getElem? (i := 27) (by decide +kernel)) (by decide +kernel)
theorem se_X13_isMinute : Jvm.Cond.selects yX13_isMinute.cls yX13_isMinute yX13_isMinute ∈ qTw := List.mem_filter.mpr ⟨List.mem_append_left _ (List.mem_of_getElem? (i := 69) (by decide +kernel)), rfl⟩
theorem co_X13_isMinute : Jvm.Cond.code yX13_isMinute cX13_isMinute 2 (some .boolean) ∈ qTw := qm9 (List.mem_of_getElem? (i := 28) (by decide +kernel)) (by decide +kernel)
theorem yk_X13_isMinute : qYk yX13_isMinute 1 := ⟨⟨by decide +kernel, by decide +kernel⟩, by decide +kernel⟩
theorem ml_X13_449 : Jvm.Cond.methodLink RX13 449 yX13_isMinute ∈ qTw := qm9 (List.mem_of_getElem? (i := 25) (by decide +kernel)) (by decide +kernel)
theorem kd_X13_449 {C : qCx} {w : qWp} {cc : ByteArray} {nL dp n0 n1 pc : Nat} (h : qOk C w RX13 cc nL dp n0 n1) (d : decode cc pc = .ok (.invokevirtual 449, 3)) : qCallOk C w nL dp n0 n1 pc 2 1 yX13_isMinute (.code yX13_isMinute cX13_isMinute 2 (some .boolean)) := kindV h d ml_X13_449 im_X13_isMinute se_X13_isMinute in_ParentEveModel co_X13_isMinute yk_X13_isMinute (by decide)
theorem mf_X13_452 : Jvm.Cond.fieldLink RX13 452 (qTb 13 52).1 (qTb 13 52).2.1 (qTb 13 52).2.2.1 ∈ qTw := qm7 (List.mem_of_getElem? (i := 30) (by decide +kernel)) (by decide +kernel)
theorem ff_X13_452_98 : qFd RX13 452 98 13 52 0 := ⟨mf_X13_452, rfl, by decide, rfl⟩
theorem mf_X13_247 : Jvm.Cond.fieldLink RX13 247 (qTb 13 53).1 (qTb 13 53).2.1 (qTb 13 53).2.2.1 ∈ qTw := qm7 (List.mem_of_getElem? (i := 31) (by decide +kernel)) (by decide +kernel)
theorem ff_X13_247_98 : qFd RX13 247 98 13 53 3 := ⟨mf_X13_247, rfl, by decide, rfl⟩
theorem dX13_isNext_0 : decode cX13_isNext 0 = .ok (.aload_n 0, 1) := by decide +kernel
theorem dX13_isNext_1 : decode cX13_isNext 1 = .ok (.iload_n 1, 1) := by decide +kernel
theorem dX13_isNext_2 : decode cX13_isNext 2 = .ok (.invokevirtual 449, 3) := by decide +kernel
theorem dX13_isNext_5 : decode cX13_isNext 5 = .ok (.ifCond .eq 29, 3) := by decide +kernel
theorem dX13_isNext_8 : decode cX13_isNext 8 = .ok (.aload_n 0, 1) := by decide +kernel
theorem dX13_isNext_9 : decode cX13_isNext 9 = .ok (.getfield 452, 3) := by decide +kernel
theorem dX13_isNext_12 : decode cX13_isNext 12 = .ok (.ifCond .eq 18, 3) := by decide +kernel
theorem dX13_isNext_15 : decode cX13_isNext 15 = .ok (.iload_n 1, 1) := by decide +kernel
theorem dX13_isNext_16 : decode cX13_isNext 16 = .ok (.aload_n 0, 1) := by decide +kernel
theorem dX13_isNext_17 : decode cX13_isNext 17 = .ok (.getfield 247, 3) := by decide +kernel
theorem dX13_isNext_20 : decode cX13_isNext 20 = .ok (.aload_n 0, 1) := by decide +kernel
theorem dX13_isNext_21 : decode cX13_isNext 21 = .ok (.getfield 452, 3) := by decide +kernel
theorem dX13_isNext_24 : decode cX13_isNext 24 = .ok (.iconst 1, 1) := by decide +kernel
theorem dX13_isNext_25 : decode cX13_isNext 25 = .ok (.isub, 1) := by decide +kernel
theorem dX13_isNext_26 : decode cX13_isNext 26 = .ok (.iaload, 1) := by decide +kernel
theorem dX13_isNext_27 : decode cX13_isNext 27 = .ok (.if_icmp .lt 7, 3) := by decide +kernel
theorem dX13_isNext_30 : decode cX13_isNext 30 = .ok (.iconst 1, 1) := by decide +kernel
theorem dX13_isNext_31 : decode cX13_isNext 31 = .ok (.goto 4, 3) := by decide +kernel
theorem dX13_isNext_34 : decode cX13_isNext 34 = .ok (.iconst 0, 1) := by decide +kernel
theorem dX13_isNext_35 : decode cX13_isNext 35 = .ok (.ireturn, 1) := by decide +kernel
noncomputable def tX13_isNext_19 : qT (Int32 × qM) :=
  eZ
noncomputable def wX13_isNext_19 (k : Int32 → qM → Option (Int32 × qM)) : qT (Int32 × qM) := fun lo st m => match lo, st with
  | [_, _], [.int s0] => k s0 m
  | _, _ => none
set_option maxRecDepth 20000 in
theorem sX13_isNext_19 {C : qCx} {w : qWp} (h : qOk C w RX13 cX13_isNext 2 2 155 155) (hm : qMt C (some .boolean)) (hx : qNx C) : qSnd C w 2 155 (qQf C w 155 155 jI) qfin 155 35 (tX13_isNext_19) :=
  zZ (pc := 35) h hm (Nat.le_refl _) dX13_isNext_35
set_option maxRecDepth 20000 in
theorem lX13_isNext_19 (s0 : Int32) (m : qM) : tX13_isNext_19 [none, none] [(.int s0)] m = fX13_isNext_19 s0 m := rfl
theorem bX13_isNext_19 {C : qCx} {w : qWp} (h : qOk C w RX13 cX13_isNext 2 2 155 155) (hm : qMt C (some .boolean)) (hx : qNx C) : qSnd C w 2 155 (qQf C w 155 155 jI) qfin 155 35 (wX13_isNext_19 fX13_isNext_19) :=
  qSnd_of (fun lo st m x hr0 => by
    unfold wX13_isNext_19 at hr0
    split at hr0
    · exact ⟨_, (qsub_n (qsub_n qsub_nil)), (lX13_isNext_19 _ _).trans hr0⟩
    · cases hr0) (sX13_isNext_19 h hm hx)
noncomputable def tX13_isNext_18 (j19 : qT (Int32 × qM)) : qT (Int32 × qM) :=
  oC (.int (0 : Int32)) (j19)
noncomputable def wX13_isNext_18 (k : qM → Option (Int32 × qM)) : qT (Int32 × qM) := fun lo st m => match lo, st with
  | [_, _], [] => k m
  | _, _ => none
set_option maxRecDepth 20000 in
theorem sX13_isNext_18 {C : qCx} {w : qWp} (h : qOk C w RX13 cX13_isNext 2 2 155 155) (hm : qMt C (some .boolean)) (hx : qNx C) {j19 : qT (Int32 × qM)} (k19 : qSnd C w 2 155 (qQf C w 155 155 jI) qfin 155 35 j19) : qSnd C w 2 155 (qQf C w 155 155 jI) qfin 155 34 (tX13_isNext_18 j19) :=
  cC (pc := 34) h dX13_isNext_34 rfl (k19)
set_option maxRecDepth 20000 in
theorem lX13_isNext_18 (m : qM) : tX13_isNext_18 (wX13_isNext_19 fX13_isNext_19) [none, none] [] m = fX13_isNext_18 m := rfl
theorem bX13_isNext_18 {C : qCx} {w : qWp} (h : qOk C w RX13 cX13_isNext 2 2 155 155) (hm : qMt C (some .boolean)) (hx : qNx C) : qSnd C w 2 155 (qQf C w 155 155 jI) qfin 155 34 (wX13_isNext_18 fX13_isNext_18) :=
  qSnd_of (fun lo st m x hr0 => by
    unfold wX13_isNext_18 at hr0
    split at hr0
    · exact ⟨_, (qsub_n (qsub_n qsub_nil)), (lX13_isNext_18 _).trans hr0⟩
    · cases hr0) (sX13_isNext_18 h hm hx (bX13_isNext_19 h hm hx))
noncomputable def tX13_isNext_16 (j19 : qT (Int32 × qM)) : qT (Int32 × qM) :=
  oC (.int (1 : Int32)) (j19)
noncomputable def wX13_isNext_16 (k : qM → Option (Int32 × qM)) : qT (Int32 × qM) := fun lo st m => match lo, st with
  | [_, _], [] => k m
  | _, _ => none
set_option maxRecDepth 20000 in
theorem sX13_isNext_16 {C : qCx} {w : qWp} (h : qOk C w RX13 cX13_isNext 2 2 155 155) (hm : qMt C (some .boolean)) (hx : qNx C) {j19 : qT (Int32 × qM)} (k19 : qSnd C w 2 155 (qQf C w 155 155 jI) qfin 155 35 j19) : qSnd C w 2 155 (qQf C w 155 155 jI) qfin 155 30 (tX13_isNext_16 j19) :=
  cC (pc := 30) h dX13_isNext_30 rfl (jGo (pc := 31) h dX13_isNext_31 rfl (k19))
set_option maxRecDepth 20000 in
theorem lX13_isNext_16 (m : qM) : tX13_isNext_16 (wX13_isNext_19 fX13_isNext_19) [none, none] [] m = fX13_isNext_16 m := rfl
theorem bX13_isNext_16 {C : qCx} {w : qWp} (h : qOk C w RX13 cX13_isNext 2 2 155 155) (hm : qMt C (some .boolean)) (hx : qNx C) : qSnd C w 2 155 (qQf C w 155 155 jI) qfin 155 30 (wX13_isNext_16 fX13_isNext_16) :=
  qSnd_of (fun lo st m x hr0 => by
    unfold wX13_isNext_16 at hr0
    split at hr0
    · exact ⟨_, (qsub_n (qsub_n qsub_nil)), (lX13_isNext_16 _).trans hr0⟩
    · cases hr0) (sX13_isNext_16 h hm hx (bX13_isNext_19 h hm hx))
noncomputable def tX13_isNext_0 (j18 : qT (Int32 × qM)) (j16 : qT (Int32 × qM)) : qT (Int32 × qM) :=
  oLa 0 (oLi 1 (oCi GX13_isMinute 2 (oEq (j18) (oLa 0 (oGi 98 52 (oEq (j16) (oLi 1 (oLa 0 (oGf 98 53 134 (oLa 0 (oGi 98 52 (oC (.int (1 : Int32)) (o2 (· - ·) (oAi 134 80 (oCLt (j18) (j16))))))))))))))))
set_option maxRecDepth 20000 in
theorem sX13_isNext_0 {C : qCx} {w : qWp} (h : qOk C w RX13 cX13_isNext 2 2 155 155) (hm : qMt C (some .boolean)) (hx : qNx C) {j18 : qT (Int32 × qM)} {j16 : qT (Int32 × qM)} (k18 : qSnd C w 2 155 (qQf C w 155 155 jI) qfin 155 34 j18) (k16 : qSnd C w 2 155 (qQf C w 155 155 jI) qfin 155 30 j16) : qSnd C w 2 155 (qQf C w 155 155 jI) qfin 155 0 (tX13_isNext_0 j18 j16) :=
  cLa (pc := 0) h dX13_isNext_0 rfl (cLi (pc := 1) h dX13_isNext_1 rfl (kCi (pc := 2) h (kd_X13_449 h dX13_isNext_2) spX13_isMinute (by decide) (by decide) (by decide) (by decide) (jEq (pc := 5) h dX13_isNext_5 rfl (k18) (cLa (pc := 8) h dX13_isNext_8 rfl (gGi (pc := 9) h dX13_isNext_9 ff_X13_452_98 (Nat.le_of_ble_eq_true rfl) (Nat.le_of_ble_eq_true rfl) (jEq (pc := 12) h dX13_isNext_12 rfl (k16) (cLi (pc := 15) h dX13_isNext_15 rfl (cLa (pc := 16) h dX13_isNext_16 rfl (gGf (pc := 17) h dX13_isNext_17 ff_X13_247_98 (Nat.le_of_ble_eq_true rfl) (Nat.le_of_ble_eq_true rfl) rfl (cLa (pc := 20) h dX13_isNext_20 rfl (gGi (pc := 21) h dX13_isNext_21 ff_X13_452_98 (Nat.le_of_ble_eq_true rfl) (Nat.le_of_ble_eq_true rfl) (cC (pc := 24) h dX13_isNext_24 rfl (aSub (pc := 25) h dX13_isNext_25 (rAi (pc := 26) h dX13_isNext_26 rfl (Nat.le_of_ble_eq_true rfl) (Nat.le_of_ble_eq_true rfl) (jCLt (pc := 27) h dX13_isNext_27 rfl (k18) (k16))))))))))))))))
set_option maxRecDepth 20000 in
theorem lX13_isNext_0 (a1 : Int32) (m : qM) : tX13_isNext_0 (wX13_isNext_18 fX13_isNext_18) (wX13_isNext_16 fX13_isNext_16) [some (.ref 98), some (.int a1)] [] m = fX13_isNext_0 a1 m := rfl
noncomputable def GX13_isNext : qG Int32 := fun av m => match av with
  | [.ref 98, .int a1] => fX13_isNext a1 m
  | _ => none
theorem spX13_isNext : qSpI yX13_isNext (.code yX13_isNext cX13_isNext 2 (some .boolean)) 2 qfin 155 155 1 GX13_isNext := by
  intro av m x m' hG
  unfold GX13_isNext at hG
  split at hG
  · rename_i a1
    rw [fX13_isNext_d] at hG
    exact ⟨qmeet (J := jI) (r := (x, m')) (av := [.ref 98, .int a1]) (by decide +kernel) (Nat.le_of_ble_eq_true rfl) (fun C w h hm hx hn => sX13_isNext_0 h hm hx (bX13_isNext_18 h hm hx) (bX13_isNext_16 h hm hx)) ((lX13_isNext_0 _ _).trans hG) (Nat.le_of_ble_eq_true rfl), Or.inl ⟨98, _, 13, _, _, rfl, by decide, rfl, qCk_13, rfl⟩⟩
  · cases hG
theorem mf_X13_250 : Jvm.Cond.fieldLink RX13 250 (qTb 13 54).1 (qTb 13 54).2.1 (qTb 13 54).2.2.1 ∈ qTw := qm7 (List.mem_of_getElem? (i := 32) (by decide +kernel)) (by decide +kernel)
theorem ff_X13_250_98 : qFd RX13 250 98 13 54 3 := ⟨mf_X13_250, rfl, by decide, rfl⟩
theorem mf_X13_253 : Jvm.Cond.fieldLink RX13 253 (qTb 13 55).1 (qTb 13 55).2.1 (qTb 13 55).2.2.1 ∈ qTw := qm7 (List.mem_of_getElem? (i := 33) (by decide +kernel)) (by decide +kernel)
theorem ff_X13_253_98 : qFd RX13 253 98 13 55 3 := ⟨mf_X13_253, rfl, by decide, rfl⟩
theorem mf_X13_256 : Jvm.Cond.fieldLink RX13 256 (qTb 13 56).1 (qTb 13 56).2.1 (qTb 13 56).2.2.1 ∈ qTw := qm7 (List.mem_of_getElem? (i := 34) (by decide +kernel)) (by decide +kernel)
theorem ff_X13_256_98 : qFd RX13 256 98 13 56 3 := ⟨mf_X13_256, rfl, by decide, rfl⟩
theorem mf_X13_259 : Jvm.Cond.fieldLink RX13 259 (qTb 13 57).1 (qTb 13 57).2.1 (qTb 13 57).2.2.1 ∈ qTw := qm7 (List.mem_of_getElem? (i := 35) (by decide +kernel)) (by decide +kernel)
theorem ff_X13_259_98 : qFd RX13 259 98 13 57 3 := ⟨mf_X13_259, rfl, by decide, rfl⟩
theorem dX13_tell_0 : decode cX13_tell 0 = .ok (.aload_n 0, 1) := by decide +kernel
theorem dX13_tell_1 : decode cX13_tell 1 = .ok (.getfield 452, 3) := by decide +kernel
theorem dX13_tell_4 : decode cX13_tell 4 = .ok (.bipush 80, 2) := by decide +kernel
theorem dX13_tell_6 : decode cX13_tell 6 = .ok (.if_icmp .ne 6, 3) := by decide +kernel
theorem dX13_tell_9 : decode cX13_tell 9 = .ok (.bipush (-3), 2) := by decide +kernel
theorem dX13_tell_11 : decode cX13_tell 11 = .ok (.ireturn, 1) := by decide +kernel
theorem dX13_tell_12 : decode cX13_tell 12 = .ok (.aload_n 0, 1) := by decide +kernel
theorem dX13_tell_13 : decode cX13_tell 13 = .ok (.getfield 247, 3) := by decide +kernel
theorem dX13_tell_16 : decode cX13_tell 16 = .ok (.aload_n 0, 1) := by decide +kernel
theorem dX13_tell_17 : decode cX13_tell 17 = .ok (.getfield 452, 3) := by decide +kernel
theorem dX13_tell_20 : decode cX13_tell 20 = .ok (.iload_n 1, 1) := by decide +kernel
theorem dX13_tell_21 : decode cX13_tell 21 = .ok (.iastore, 1) := by decide +kernel
theorem dX13_tell_22 : decode cX13_tell 22 = .ok (.aload_n 0, 1) := by decide +kernel
theorem dX13_tell_23 : decode cX13_tell 23 = .ok (.getfield 250, 3) := by decide +kernel
theorem dX13_tell_26 : decode cX13_tell 26 = .ok (.aload_n 0, 1) := by decide +kernel
theorem dX13_tell_27 : decode cX13_tell 27 = .ok (.getfield 452, 3) := by decide +kernel
theorem dX13_tell_30 : decode cX13_tell 30 = .ok (.iload_n 2, 1) := by decide +kernel
theorem dX13_tell_31 : decode cX13_tell 31 = .ok (.iastore, 1) := by decide +kernel
theorem dX13_tell_32 : decode cX13_tell 32 = .ok (.aload_n 0, 1) := by decide +kernel
theorem dX13_tell_33 : decode cX13_tell 33 = .ok (.getfield 253, 3) := by decide +kernel
theorem dX13_tell_36 : decode cX13_tell 36 = .ok (.aload_n 0, 1) := by decide +kernel
theorem dX13_tell_37 : decode cX13_tell 37 = .ok (.getfield 452, 3) := by decide +kernel
theorem dX13_tell_40 : decode cX13_tell 40 = .ok (.iload_n 3, 1) := by decide +kernel
theorem dX13_tell_41 : decode cX13_tell 41 = .ok (.iastore, 1) := by decide +kernel
theorem dX13_tell_42 : decode cX13_tell 42 = .ok (.aload_n 0, 1) := by decide +kernel
theorem dX13_tell_43 : decode cX13_tell 43 = .ok (.getfield 256, 3) := by decide +kernel
theorem dX13_tell_46 : decode cX13_tell 46 = .ok (.aload_n 0, 1) := by decide +kernel
theorem dX13_tell_47 : decode cX13_tell 47 = .ok (.getfield 452, 3) := by decide +kernel
theorem dX13_tell_50 : decode cX13_tell 50 = .ok (.iload 4, 2) := by decide +kernel
theorem dX13_tell_52 : decode cX13_tell 52 = .ok (.iastore, 1) := by decide +kernel
theorem dX13_tell_53 : decode cX13_tell 53 = .ok (.aload_n 0, 1) := by decide +kernel
theorem dX13_tell_54 : decode cX13_tell 54 = .ok (.getfield 259, 3) := by decide +kernel
theorem dX13_tell_57 : decode cX13_tell 57 = .ok (.aload_n 0, 1) := by decide +kernel
theorem dX13_tell_58 : decode cX13_tell 58 = .ok (.getfield 452, 3) := by decide +kernel
theorem dX13_tell_61 : decode cX13_tell 61 = .ok (.iload 5, 2) := by decide +kernel
theorem dX13_tell_63 : decode cX13_tell 63 = .ok (.iastore, 1) := by decide +kernel
theorem dX13_tell_64 : decode cX13_tell 64 = .ok (.aload_n 0, 1) := by decide +kernel
theorem dX13_tell_65 : decode cX13_tell 65 = .ok (.dup, 1) := by decide +kernel
theorem dX13_tell_66 : decode cX13_tell 66 = .ok (.getfield 452, 3) := by decide +kernel
theorem dX13_tell_69 : decode cX13_tell 69 = .ok (.iconst 1, 1) := by decide +kernel
theorem dX13_tell_70 : decode cX13_tell 70 = .ok (.iadd, 1) := by decide +kernel
theorem dX13_tell_71 : decode cX13_tell 71 = .ok (.putfield 452, 3) := by decide +kernel
theorem dX13_tell_74 : decode cX13_tell 74 = .ok (.aload_n 0, 1) := by decide +kernel
theorem dX13_tell_75 : decode cX13_tell 75 = .ok (.getfield 452, 3) := by decide +kernel
theorem dX13_tell_78 : decode cX13_tell 78 = .ok (.ireturn, 1) := by decide +kernel
noncomputable def tX13_tell_0 : qT (Int32 × qM) :=
  oLa 0 (oGi 98 52 (oC (.int (80 : Int32)) (oCEq (oC (.int (-3 : Int32)) (eI)) (oLa 0 (oGf 98 53 134 (oLa 0 (oGi 98 52 (oLi 1 (oWi 134 80 (oLa 0 (oGf 98 54 135 (oLa 0 (oGi 98 52 (oLi 2 (oWi 135 80 (oLa 0 (oGf 98 55 136 (oLa 0 (oGi 98 52 (oLi 3 (oWi 136 80 (oLa 0 (oGf 98 56 137 (oLa 0 (oGi 98 52 (oLi 4 (oWi 137 80 (oLa 0 (oGf 98 57 138 (oLa 0 (oGi 98 52 (oLi 5 (oWi 138 80 (oLa 0 (oDup (oGi 98 52 (oC (.int (1 : Int32)) (o2 (· + ·) (oPi 98 52 (oLa 0 (oGi 98 52 (eI))))))))))))))))))))))))))))))))))))))))))
set_option maxRecDepth 20000 in
theorem sX13_tell_0 {C : qCx} {w : qWp} (h : qOk C w RX13 cX13_tell 6 0 155 155) (hm : qMt C (some .int)) (hx : qNx C) : qSnd C w 6 155 (qQf C w 155 155 jI) qfin 155 0 (tX13_tell_0) :=
  cLa (pc := 0) h dX13_tell_0 rfl (gGi (pc := 1) h dX13_tell_1 ff_X13_452_98 (Nat.le_of_ble_eq_true rfl) (Nat.le_of_ble_eq_true rfl) (cB (pc := 4) h dX13_tell_4 rfl (jCNe (pc := 6) h dX13_tell_6 rfl (cLa (pc := 12) h dX13_tell_12 rfl (gGf (pc := 13) h dX13_tell_13 ff_X13_247_98 (Nat.le_of_ble_eq_true rfl) (Nat.le_of_ble_eq_true rfl) rfl (cLa (pc := 16) h dX13_tell_16 rfl (gGi (pc := 17) h dX13_tell_17 ff_X13_452_98 (Nat.le_of_ble_eq_true rfl) (Nat.le_of_ble_eq_true rfl) (cLi (pc := 20) h dX13_tell_20 rfl (rWi (pc := 21) h dX13_tell_21 rfl (Nat.le_of_ble_eq_true rfl) (Nat.le_of_ble_eq_true rfl) (cLa (pc := 22) h dX13_tell_22 rfl (gGf (pc := 23) h dX13_tell_23 ff_X13_250_98 (Nat.le_of_ble_eq_true rfl) (Nat.le_of_ble_eq_true rfl) rfl (cLa (pc := 26) h dX13_tell_26 rfl (gGi (pc := 27) h dX13_tell_27 ff_X13_452_98 (Nat.le_of_ble_eq_true rfl) (Nat.le_of_ble_eq_true rfl) (cLi (pc := 30) h dX13_tell_30 rfl (rWi (pc := 31) h dX13_tell_31 rfl (Nat.le_of_ble_eq_true rfl) (Nat.le_of_ble_eq_true rfl) (cLa (pc := 32) h dX13_tell_32 rfl (gGf (pc := 33) h dX13_tell_33 ff_X13_253_98 (Nat.le_of_ble_eq_true rfl) (Nat.le_of_ble_eq_true rfl) rfl (cLa (pc := 36) h dX13_tell_36 rfl (gGi (pc := 37) h dX13_tell_37 ff_X13_452_98 (Nat.le_of_ble_eq_true rfl) (Nat.le_of_ble_eq_true rfl) (cLi (pc := 40) h dX13_tell_40 rfl (rWi (pc := 41) h dX13_tell_41 rfl (Nat.le_of_ble_eq_true rfl) (Nat.le_of_ble_eq_true rfl) (cLa (pc := 42) h dX13_tell_42 rfl (gGf (pc := 43) h dX13_tell_43 ff_X13_256_98 (Nat.le_of_ble_eq_true rfl) (Nat.le_of_ble_eq_true rfl) rfl (cLa (pc := 46) h dX13_tell_46 rfl (gGi (pc := 47) h dX13_tell_47 ff_X13_452_98 (Nat.le_of_ble_eq_true rfl) (Nat.le_of_ble_eq_true rfl) (cLI (pc := 50) h dX13_tell_50 (rWi (pc := 52) h dX13_tell_52 rfl (Nat.le_of_ble_eq_true rfl) (Nat.le_of_ble_eq_true rfl) (cLa (pc := 53) h dX13_tell_53 rfl (gGf (pc := 54) h dX13_tell_54 ff_X13_259_98 (Nat.le_of_ble_eq_true rfl) (Nat.le_of_ble_eq_true rfl) rfl (cLa (pc := 57) h dX13_tell_57 rfl (gGi (pc := 58) h dX13_tell_58 ff_X13_452_98 (Nat.le_of_ble_eq_true rfl) (Nat.le_of_ble_eq_true rfl) (cLI (pc := 61) h dX13_tell_61 (rWi (pc := 63) h dX13_tell_63 rfl (Nat.le_of_ble_eq_true rfl) (Nat.le_of_ble_eq_true rfl) (cLa (pc := 64) h dX13_tell_64 rfl (aDup (pc := 65) h dX13_tell_65 (gGi (pc := 66) h dX13_tell_66 ff_X13_452_98 (Nat.le_of_ble_eq_true rfl) (Nat.le_of_ble_eq_true rfl) (cC (pc := 69) h dX13_tell_69 rfl (aAdd (pc := 70) h dX13_tell_70 (gPi (pc := 71) h dX13_tell_71 ff_X13_452_98 (Or.inl rfl) (Nat.le_of_ble_eq_true rfl) (Nat.le_of_ble_eq_true rfl) (cLa (pc := 74) h dX13_tell_74 rfl (gGi (pc := 75) h dX13_tell_75 ff_X13_452_98 (Nat.le_of_ble_eq_true rfl) (Nat.le_of_ble_eq_true rfl) (zI (pc := 78) h hm (Nat.le_refl _) dX13_tell_78))))))))))))))))))))))))))))))))))))))) (cB (pc := 9) h dX13_tell_9 rfl (zI (pc := 11) h hm (Nat.le_refl _) dX13_tell_11)))))
set_option maxRecDepth 20000 in
theorem lX13_tell_0 (a1 : Int32) (a2 : Int32) (a3 : Int32) (a4 : Int32) (a5 : Int32) (m : qM) : tX13_tell_0 [some (.ref 98), some (.int a1), some (.int a2), some (.int a3), some (.int a4), some (.int a5)] [] m = fX13_tell_0 a1 a2 a3 a4 a5 m := rfl
noncomputable def GX13_tell : qG Int32 := fun av m => match av with
  | [.ref 98, .int a1, .int a2, .int a3, .int a4, .int a5] => fX13_tell a1 a2 a3 a4 a5 m
  | _ => none
theorem spX13_tell : qSpI yX13_tell (.code yX13_tell cX13_tell 6 (some .int)) 0 qfin 155 155 1 GX13_tell := by
  intro av m x m' hG
  unfold GX13_tell at hG
  split at hG
  · rename_i a1 a2 a3 a4 a5
    rw [fX13_tell_d] at hG
    exact ⟨qmeet (J := jI) (r := (x, m')) (av := [.ref 98, .int a1, .int a2, .int a3, .int a4, .int a5]) (by decide +kernel) (Nat.le_of_ble_eq_true rfl) (fun C w h hm hx hn => sX13_tell_0 h hm hx) ((lX13_tell_0 _ _ _ _ _ _).trans hG) (Nat.le_of_ble_eq_true rfl), Or.inl ⟨98, _, 13, _, _, rfl, by decide, rfl, qCk_13, rfl⟩⟩
  · cases hG
theorem dX13_isMeeting_0 : decode cX13_isMeeting 0 = .ok (.aload_n 0, 1) := by decide +kernel
theorem dX13_isMeeting_1 : decode cX13_isMeeting 1 = .ok (.getfield 316, 3) := by decide +kernel
theorem dX13_isMeeting_4 : decode cX13_isMeeting 4 = .ok (.ifCond .eq 17, 3) := by decide +kernel
theorem dX13_isMeeting_7 : decode cX13_isMeeting 7 = .ok (.aload_n 0, 1) := by decide +kernel
theorem dX13_isMeeting_8 : decode cX13_isMeeting 8 = .ok (.getfield 221, 3) := by decide +kernel
theorem dX13_isMeeting_11 : decode cX13_isMeeting 11 = .ok (.iload_n 1, 1) := by decide +kernel
theorem dX13_isMeeting_12 : decode cX13_isMeeting 12 = .ok (.iaload, 1) := by decide +kernel
theorem dX13_isMeeting_13 : decode cX13_isMeeting 13 = .ok (.iconst (-1), 1) := by decide +kernel
theorem dX13_isMeeting_14 : decode cX13_isMeeting 14 = .ok (.if_icmp .eq 7, 3) := by decide +kernel
theorem dX13_isMeeting_17 : decode cX13_isMeeting 17 = .ok (.iconst 1, 1) := by decide +kernel
theorem dX13_isMeeting_18 : decode cX13_isMeeting 18 = .ok (.goto 4, 3) := by decide +kernel
theorem dX13_isMeeting_21 : decode cX13_isMeeting 21 = .ok (.iconst 0, 1) := by decide +kernel
theorem dX13_isMeeting_22 : decode cX13_isMeeting 22 = .ok (.ireturn, 1) := by decide +kernel
noncomputable def tX13_isMeeting_12 : qT (Int32 × qM) :=
  eZ
noncomputable def wX13_isMeeting_12 (k : Int32 → qM → Option (Int32 × qM)) : qT (Int32 × qM) := fun lo st m => match lo, st with
  | [_, _], [.int s0] => k s0 m
  | _, _ => none
set_option maxRecDepth 20000 in
theorem sX13_isMeeting_12 {C : qCx} {w : qWp} (h : qOk C w RX13 cX13_isMeeting 2 0 155 155) (hm : qMt C (some .boolean)) (hx : qNx C) : qSnd C w 2 155 (qQf C w 155 155 jI) qfin 155 22 (tX13_isMeeting_12) :=
  zZ (pc := 22) h hm (Nat.le_refl _) dX13_isMeeting_22
set_option maxRecDepth 20000 in
theorem lX13_isMeeting_12 (s0 : Int32) (m : qM) : tX13_isMeeting_12 [none, none] [(.int s0)] m = fX13_isMeeting_12 s0 m := rfl
theorem bX13_isMeeting_12 {C : qCx} {w : qWp} (h : qOk C w RX13 cX13_isMeeting 2 0 155 155) (hm : qMt C (some .boolean)) (hx : qNx C) : qSnd C w 2 155 (qQf C w 155 155 jI) qfin 155 22 (wX13_isMeeting_12 fX13_isMeeting_12) :=
  qSnd_of (fun lo st m x hr0 => by
    unfold wX13_isMeeting_12 at hr0
    split at hr0
    · exact ⟨_, (qsub_n (qsub_n qsub_nil)), (lX13_isMeeting_12 _ _).trans hr0⟩
    · cases hr0) (sX13_isMeeting_12 h hm hx)
noncomputable def tX13_isMeeting_11 (j12 : qT (Int32 × qM)) : qT (Int32 × qM) :=
  oC (.int (0 : Int32)) (j12)
noncomputable def wX13_isMeeting_11 (k : qM → Option (Int32 × qM)) : qT (Int32 × qM) := fun lo st m => match lo, st with
  | [_, _], [] => k m
  | _, _ => none
set_option maxRecDepth 20000 in
theorem sX13_isMeeting_11 {C : qCx} {w : qWp} (h : qOk C w RX13 cX13_isMeeting 2 0 155 155) (hm : qMt C (some .boolean)) (hx : qNx C) {j12 : qT (Int32 × qM)} (k12 : qSnd C w 2 155 (qQf C w 155 155 jI) qfin 155 22 j12) : qSnd C w 2 155 (qQf C w 155 155 jI) qfin 155 21 (tX13_isMeeting_11 j12) :=
  cC (pc := 21) h dX13_isMeeting_21 rfl (k12)
set_option maxRecDepth 20000 in
theorem lX13_isMeeting_11 (m : qM) : tX13_isMeeting_11 (wX13_isMeeting_12 fX13_isMeeting_12) [none, none] [] m = fX13_isMeeting_11 m := rfl
theorem bX13_isMeeting_11 {C : qCx} {w : qWp} (h : qOk C w RX13 cX13_isMeeting 2 0 155 155) (hm : qMt C (some .boolean)) (hx : qNx C) : qSnd C w 2 155 (qQf C w 155 155 jI) qfin 155 21 (wX13_isMeeting_11 fX13_isMeeting_11) :=
  qSnd_of (fun lo st m x hr0 => by
    unfold wX13_isMeeting_11 at hr0
    split at hr0
    · exact ⟨_, (qsub_n (qsub_n qsub_nil)), (lX13_isMeeting_11 _).trans hr0⟩
    · cases hr0) (sX13_isMeeting_11 h hm hx (bX13_isMeeting_12 h hm hx))
noncomputable def tX13_isMeeting_0 (j11 : qT (Int32 × qM)) (j12 : qT (Int32 × qM)) : qT (Int32 × qM) :=
  oLa 0 (oGi 98 33 (oEq (j11) (oLa 0 (oGf 98 36 125 (oLi 1 (oAi 125 40 (oC (.int (-1 : Int32)) (oCEq (j11) (oC (.int (1 : Int32)) (j12))))))))))
set_option maxRecDepth 20000 in
theorem sX13_isMeeting_0 {C : qCx} {w : qWp} (h : qOk C w RX13 cX13_isMeeting 2 0 155 155) (hm : qMt C (some .boolean)) (hx : qNx C) {j11 : qT (Int32 × qM)} {j12 : qT (Int32 × qM)} (k11 : qSnd C w 2 155 (qQf C w 155 155 jI) qfin 155 21 j11) (k12 : qSnd C w 2 155 (qQf C w 155 155 jI) qfin 155 22 j12) : qSnd C w 2 155 (qQf C w 155 155 jI) qfin 155 0 (tX13_isMeeting_0 j11 j12) :=
  cLa (pc := 0) h dX13_isMeeting_0 rfl (gGz (pc := 1) h dX13_isMeeting_1 ff_X13_316_98 (Nat.le_of_ble_eq_true rfl) (Nat.le_of_ble_eq_true rfl) (jEq (pc := 4) h dX13_isMeeting_4 rfl (k11) (cLa (pc := 7) h dX13_isMeeting_7 rfl (gGf (pc := 8) h dX13_isMeeting_8 ff_X13_221_98 (Nat.le_of_ble_eq_true rfl) (Nat.le_of_ble_eq_true rfl) rfl (cLi (pc := 11) h dX13_isMeeting_11 rfl (rAi (pc := 12) h dX13_isMeeting_12 rfl (Nat.le_of_ble_eq_true rfl) (Nat.le_of_ble_eq_true rfl) (cC (pc := 13) h dX13_isMeeting_13 rfl (jCEq (pc := 14) h dX13_isMeeting_14 rfl (k11) (cC (pc := 17) h dX13_isMeeting_17 rfl (jGo (pc := 18) h dX13_isMeeting_18 rfl (k12)))))))))))
set_option maxRecDepth 20000 in
theorem lX13_isMeeting_0 (a1 : Int32) (m : qM) : tX13_isMeeting_0 (wX13_isMeeting_11 fX13_isMeeting_11) (wX13_isMeeting_12 fX13_isMeeting_12) [some (.ref 98), some (.int a1)] [] m = fX13_isMeeting_0 a1 m := rfl
noncomputable def GX13_isMeeting : qG Int32 := fun av m => match av with
  | [.ref 98, .int a1] => fX13_isMeeting a1 m
  | _ => none
theorem spX13_isMeeting : qSpI yX13_isMeeting (.code yX13_isMeeting cX13_isMeeting 2 (some .boolean)) 0 qfin 155 155 1 GX13_isMeeting := by
  intro av m x m' hG
  unfold GX13_isMeeting at hG
  split at hG
  · rename_i a1
    rw [fX13_isMeeting_d] at hG
    exact ⟨qmeet (J := jI) (r := (x, m')) (av := [.ref 98, .int a1]) (by decide +kernel) (Nat.le_of_ble_eq_true rfl) (fun C w h hm hx hn => sX13_isMeeting_0 h hm hx (bX13_isMeeting_11 h hm hx) (bX13_isMeeting_12 h hm hx)) ((lX13_isMeeting_0 _ _).trans hG) (Nat.le_of_ble_eq_true rfl), Or.inl ⟨98, _, 13, _, _, rfl, by decide, rfl, qCk_13, rfl⟩⟩
  · cases hG
theorem im_X13_isNext : Jvm.Cond.instanceMethod yX13_isNext ∈ qTw := qm9 (List.mem_of_getElem? (i := 23) (by decide +kernel)) (by decide +kernel)
theorem se_X13_isNext : Jvm.Cond.selects yX13_isNext.cls yX13_isNext yX13_isNext ∈ qTw := List.mem_filter.mpr ⟨List.mem_append_left _ (List.mem_of_getElem? (i := 68) (by decide +kernel)), rfl⟩
theorem co_X13_isNext : Jvm.Cond.code yX13_isNext cX13_isNext 2 (some .boolean) ∈ qTw := qm9 (List.mem_of_getElem? (i := 24) (by decide +kernel)) (by decide +kernel)
theorem yk_X13_isNext : qYk yX13_isNext 1 := ⟨⟨by decide +kernel, by decide +kernel⟩, by decide +kernel⟩
theorem ml_X13_455 : Jvm.Cond.methodLink RX13 455 yX13_isNext ∈ qTw := qm9 (List.mem_of_getElem? (i := 21) (by decide +kernel)) (by decide +kernel)
theorem kd_X13_455 {C : qCx} {w : qWp} {cc : ByteArray} {nL dp n0 n1 pc : Nat} (h : qOk C w RX13 cc nL dp n0 n1) (d : decode cc pc = .ok (.invokevirtual 455, 3)) : qCallOk C w nL dp n0 n1 pc 2 1 yX13_isNext (.code yX13_isNext cX13_isNext 2 (some .boolean)) := kindV h d ml_X13_455 im_X13_isNext se_X13_isNext in_ParentEveModel co_X13_isNext yk_X13_isNext (by decide)
theorem im_X13_isMeeting : Jvm.Cond.instanceMethod yX13_isMeeting ∈ qTw := qm9 (List.mem_of_getElem? (i := 32) (by decide +kernel)) (by decide +kernel)
theorem se_X13_isMeeting : Jvm.Cond.selects yX13_isMeeting.cls yX13_isMeeting yX13_isMeeting ∈ qTw := List.mem_filter.mpr ⟨List.mem_append_left _ (List.mem_of_getElem? (i := 70) (by decide +kernel)), rfl⟩
theorem co_X13_isMeeting : Jvm.Cond.code yX13_isMeeting cX13_isMeeting 2 (some .boolean) ∈ qTw := qm9 (List.mem_of_getElem? (i := 33) (by decide +kernel)) (by decide +kernel)
theorem yk_X13_isMeeting : qYk yX13_isMeeting 1 := ⟨⟨by decide +kernel, by decide +kernel⟩, by decide +kernel⟩
theorem ml_X13_458 : Jvm.Cond.methodLink RX13 458 yX13_isMeeting ∈ qTw := qm9 (List.mem_of_getElem? (i := 30) (by decide +kernel)) (by decide +kernel)
theorem kd_X13_458 {C : qCx} {w : qWp} {cc : ByteArray} {nL dp n0 n1 pc : Nat} (h : qOk C w RX13 cc nL dp n0 n1) (d : decode cc pc = .ok (.invokevirtual 458, 3)) : qCallOk C w nL dp n0 n1 pc 2 1 yX13_isMeeting (.code yX13_isMeeting cX13_isMeeting 2 (some .boolean)) := kindV h d ml_X13_458 im_X13_isMeeting se_X13_isMeeting in_ParentEveModel co_X13_isMeeting yk_X13_isMeeting (by decide)
theorem im_X13_tell : Jvm.Cond.instanceMethod yX13_tell ∈ qTw := qm9 (List.mem_of_getElem? (i := 36) (by decide +kernel)) (by decide +kernel)
theorem se_X13_tell : Jvm.Cond.selects yX13_tell.cls yX13_tell yX13_tell ∈ qTw := List.mem_filter.mpr ⟨List.mem_append_left _ (List.mem_of_getElem? (i := 71) (by decide +kernel)), rfl⟩
theorem co_X13_tell : Jvm.Cond.code yX13_tell cX13_tell 6 (some .int) ∈ qTw := qm9 (List.mem_of_getElem? (i := 37) (by decide +kernel)) (by decide +kernel)
theorem yk_X13_tell : qYk yX13_tell 5 := ⟨⟨by decide +kernel, by decide +kernel⟩, by decide +kernel⟩
theorem ml_X13_461 : Jvm.Cond.methodLink RX13 461 yX13_tell ∈ qTw := qm9 (List.mem_of_getElem? (i := 34) (by decide +kernel)) (by decide +kernel)
theorem kd_X13_461 {C : qCx} {w : qWp} {cc : ByteArray} {nL dp n0 n1 pc : Nat} (h : qOk C w RX13 cc nL dp n0 n1) (d : decode cc pc = .ok (.invokevirtual 461, 3)) : qCallOk C w nL dp n0 n1 pc 6 1 yX13_tell (.code yX13_tell cX13_tell 6 (some .int)) := kindV h d ml_X13_461 im_X13_tell se_X13_tell in_ParentEveModel co_X13_tell yk_X13_tell (by decide)
theorem dX13_over_0 : decode cX13_over 0 = .ok (.aload_n 0, 1) := by decide +kernel
theorem dX13_over_1 : decode cX13_over 1 = .ok (.iload_n 1, 1) := by decide +kernel
theorem dX13_over_2 : decode cX13_over 2 = .ok (.invokevirtual 455, 3) := by decide +kernel
theorem dX13_over_5 : decode cX13_over 5 = .ok (.ifCond .eq 23, 3) := by decide +kernel
theorem dX13_over_8 : decode cX13_over 8 = .ok (.aload_n 0, 1) := by decide +kernel
theorem dX13_over_9 : decode cX13_over 9 = .ok (.iload_n 2, 1) := by decide +kernel
theorem dX13_over_10 : decode cX13_over 10 = .ok (.invokevirtual 372, 3) := by decide +kernel
theorem dX13_over_13 : decode cX13_over 13 = .ok (.ifCond .eq 15, 3) := by decide +kernel
theorem dX13_over_16 : decode cX13_over 16 = .ok (.iload_n 3, 1) := by decide +kernel
theorem dX13_over_17 : decode cX13_over 17 = .ok (.i2l, 1) := by decide +kernel
theorem dX13_over_18 : decode cX13_over 18 = .ok (.lconst 0, 1) := by decide +kernel
theorem dX13_over_19 : decode cX13_over 19 = .ok (.ldc2_w 442, 3) := by decide +kernel
theorem dX13_over_22 : decode cX13_over 22 = .ok (.invokestatic 66, 3) := by decide +kernel
theorem dX13_over_25 : decode cX13_over 25 = .ok (.ifCond .ne 6, 3) := by decide +kernel
theorem dX13_over_28 : decode cX13_over 28 = .ok (.bipush (-2), 2) := by decide +kernel
theorem dX13_over_30 : decode cX13_over 30 = .ok (.ireturn, 1) := by decide +kernel
theorem dX13_over_31 : decode cX13_over 31 = .ok (.aload_n 0, 1) := by decide +kernel
theorem dX13_over_32 : decode cX13_over 32 = .ok (.iload_n 2, 1) := by decide +kernel
theorem dX13_over_33 : decode cX13_over 33 = .ok (.invokevirtual 458, 3) := by decide +kernel
theorem dX13_over_36 : decode cX13_over 36 = .ok (.ifCond .eq 15, 3) := by decide +kernel
theorem dX13_over_39 : decode cX13_over 39 = .ok (.aload_n 0, 1) := by decide +kernel
theorem dX13_over_40 : decode cX13_over 40 = .ok (.iload_n 1, 1) := by decide +kernel
theorem dX13_over_41 : decode cX13_over 41 = .ok (.iconst 0, 1) := by decide +kernel
theorem dX13_over_42 : decode cX13_over 42 = .ok (.iload_n 2, 1) := by decide +kernel
theorem dX13_over_43 : decode cX13_over 43 = .ok (.iload_n 3, 1) := by decide +kernel
theorem dX13_over_44 : decode cX13_over 44 = .ok (.iconst 0, 1) := by decide +kernel
theorem dX13_over_45 : decode cX13_over 45 = .ok (.invokevirtual 461, 3) := by decide +kernel
theorem dX13_over_48 : decode cX13_over 48 = .ok (.goto 5, 3) := by decide +kernel
theorem dX13_over_51 : decode cX13_over 51 = .ok (.bipush (-4), 2) := by decide +kernel
theorem dX13_over_53 : decode cX13_over 53 = .ok (.ireturn, 1) := by decide +kernel
noncomputable def tX13_over_14 : qT (Int32 × qM) :=
  oC (.int (-2 : Int32)) (eI)
noncomputable def wX13_over_14 (k : qM → Option (Int32 × qM)) : qT (Int32 × qM) := fun lo st m => match lo, st with
  | [_, _, _, _], [] => k m
  | _, _ => none
set_option maxRecDepth 20000 in
theorem sX13_over_14 {C : qCx} {w : qWp} (h : qOk C w RX13 cX13_over 4 3 155 155) (hm : qMt C (some .int)) (hx : qNx C) : qSnd C w 4 155 (qQf C w 155 155 jI) qfin 155 28 (tX13_over_14) :=
  cB (pc := 28) h dX13_over_28 rfl (zI (pc := 30) h hm (Nat.le_refl _) dX13_over_30)
set_option maxRecDepth 20000 in
theorem lX13_over_14 (m : qM) : tX13_over_14 [none, none, none, none] [] m = fX13_over_14 m := rfl
theorem bX13_over_14 {C : qCx} {w : qWp} (h : qOk C w RX13 cX13_over 4 3 155 155) (hm : qMt C (some .int)) (hx : qNx C) : qSnd C w 4 155 (qQf C w 155 155 jI) qfin 155 28 (wX13_over_14 fX13_over_14) :=
  qSnd_of (fun lo st m x hr0 => by
    unfold wX13_over_14 at hr0
    split at hr0
    · exact ⟨_, (qsub_n (qsub_n (qsub_n (qsub_n qsub_nil)))), (lX13_over_14 _).trans hr0⟩
    · cases hr0) (sX13_over_14 h hm hx)
noncomputable def tX13_over_29 : qT (Int32 × qM) :=
  eI
noncomputable def wX13_over_29 (k : Int32 → qM → Option (Int32 × qM)) : qT (Int32 × qM) := fun lo st m => match lo, st with
  | [_, _, _, _], [.int s0] => k s0 m
  | _, _ => none
set_option maxRecDepth 20000 in
theorem sX13_over_29 {C : qCx} {w : qWp} (h : qOk C w RX13 cX13_over 4 3 155 155) (hm : qMt C (some .int)) (hx : qNx C) : qSnd C w 4 155 (qQf C w 155 155 jI) qfin 155 53 (tX13_over_29) :=
  zI (pc := 53) h hm (Nat.le_refl _) dX13_over_53
set_option maxRecDepth 20000 in
theorem lX13_over_29 (s0 : Int32) (m : qM) : tX13_over_29 [none, none, none, none] [(.int s0)] m = fX13_over_29 s0 m := rfl
theorem bX13_over_29 {C : qCx} {w : qWp} (h : qOk C w RX13 cX13_over 4 3 155 155) (hm : qMt C (some .int)) (hx : qNx C) : qSnd C w 4 155 (qQf C w 155 155 jI) qfin 155 53 (wX13_over_29 fX13_over_29) :=
  qSnd_of (fun lo st m x hr0 => by
    unfold wX13_over_29 at hr0
    split at hr0
    · exact ⟨_, (qsub_n (qsub_n (qsub_n (qsub_n qsub_nil)))), (lX13_over_29 _ _).trans hr0⟩
    · cases hr0) (sX13_over_29 h hm hx)
noncomputable def tX13_over_0 (j14 : qT (Int32 × qM)) (j29 : qT (Int32 × qM)) : qT (Int32 × qM) :=
  oLa 0 (oLi 1 (oCi GX13_isNext 2 (oEq (j14) (oLa 0 (oLi 2 (oCi GX13_isAsk 2 (oEq (j14) (oLi 3 (oI2l (oC (.long (0 : Int64)) (oC (.long (60 : Int64)) (oCi GX13_in 3 (oEq (j14) (oLa 0 (oLi 2 (oCi GX13_isMeeting 2 (oEq (oC (.int (-4 : Int32)) (j29)) (oLa 0 (oLi 1 (oC (.int (0 : Int32)) (oLi 2 (oLi 3 (oC (.int (0 : Int32)) (oCi GX13_tell 6 (j29)))))))))))))))))))))))))
set_option maxRecDepth 20000 in
theorem sX13_over_0 {C : qCx} {w : qWp} (h : qOk C w RX13 cX13_over 4 3 155 155) (hm : qMt C (some .int)) (hx : qNx C) {j14 : qT (Int32 × qM)} {j29 : qT (Int32 × qM)} (k14 : qSnd C w 4 155 (qQf C w 155 155 jI) qfin 155 28 j14) (k29 : qSnd C w 4 155 (qQf C w 155 155 jI) qfin 155 53 j29) : qSnd C w 4 155 (qQf C w 155 155 jI) qfin 155 0 (tX13_over_0 j14 j29) :=
  cLa (pc := 0) h dX13_over_0 rfl (cLi (pc := 1) h dX13_over_1 rfl (kCi (pc := 2) h (kd_X13_455 h dX13_over_2) spX13_isNext (by decide) (by decide) (by decide) (by decide) (jEq (pc := 5) h dX13_over_5 rfl (k14) (cLa (pc := 8) h dX13_over_8 rfl (cLi (pc := 9) h dX13_over_9 rfl (kCi (pc := 10) h (kd_X13_372 h dX13_over_10) spX13_isAsk (by decide) (by decide) (by decide) (by decide) (jEq (pc := 13) h dX13_over_13 rfl (k14) (cLi (pc := 16) h dX13_over_16 rfl (aI2l (pc := 17) h dX13_over_17 (cJ (pc := 18) h dX13_over_18 rfl (cKJ (pc := 19) h dX13_over_19 fc_X13_442 (kCi (pc := 22) h (kd_X13_66 h dX13_over_22) spX13_in (by decide) (by decide) (by decide) (by decide) (jNe (pc := 25) h dX13_over_25 rfl (cLa (pc := 31) h dX13_over_31 rfl (cLi (pc := 32) h dX13_over_32 rfl (kCi (pc := 33) h (kd_X13_458 h dX13_over_33) spX13_isMeeting (by decide) (by decide) (by decide) (by decide) (jEq (pc := 36) h dX13_over_36 rfl (cB (pc := 51) h dX13_over_51 rfl (k29)) (cLa (pc := 39) h dX13_over_39 rfl (cLi (pc := 40) h dX13_over_40 rfl (cC (pc := 41) h dX13_over_41 rfl (cLi (pc := 42) h dX13_over_42 rfl (cLi (pc := 43) h dX13_over_43 rfl (cC (pc := 44) h dX13_over_44 rfl (kCi (pc := 45) h (kd_X13_461 h dX13_over_45) spX13_tell (by decide) (by decide) (by decide) (by decide) (jGo (pc := 48) h dX13_over_48 rfl (k29))))))))))))) (k14))))))))))))))
set_option maxRecDepth 20000 in
theorem lX13_over_0 (a1 : Int32) (a2 : Int32) (a3 : Int32) (m : qM) : tX13_over_0 (wX13_over_14 fX13_over_14) (wX13_over_29 fX13_over_29) [some (.ref 98), some (.int a1), some (.int a2), some (.int a3)] [] m = fX13_over_0 a1 a2 a3 m := rfl
noncomputable def GX13_over : qG Int32 := fun av m => match av with
  | [.ref 98, .int a1, .int a2, .int a3] => fX13_over a1 a2 a3 m
  | _ => none
theorem spX13_over : qSpI yX13_over (.code yX13_over cX13_over 4 (some .int)) 3 qfin 155 155 1 GX13_over := by
  intro av m x m' hG
  unfold GX13_over at hG
  split at hG
  · rename_i a1 a2 a3
    rw [fX13_over_d] at hG
    exact ⟨qmeet (J := jI) (r := (x, m')) (av := [.ref 98, .int a1, .int a2, .int a3]) (by decide +kernel) (Nat.le_of_ble_eq_true rfl) (fun C w h hm hx hn => sX13_over_0 h hm hx (bX13_over_14 h hm hx) (bX13_over_29 h hm hx)) ((lX13_over_0 _ _ _ _).trans hG) (Nat.le_of_ble_eq_true rfl), Or.inl ⟨98, _, 13, _, _, rfl, by decide, rfl, qCk_13, rfl⟩⟩
  · cases hG
theorem dX13_absent_0 : decode cX13_absent 0 = .ok (.aload_n 0, 1) := by decide +kernel
theorem dX13_absent_1 : decode cX13_absent 1 = .ok (.iload_n 1, 1) := by decide +kernel
theorem dX13_absent_2 : decode cX13_absent 2 = .ok (.invokevirtual 455, 3) := by decide +kernel
theorem dX13_absent_5 : decode cX13_absent 5 = .ok (.ifCond .eq 11, 3) := by decide +kernel
theorem dX13_absent_8 : decode cX13_absent 8 = .ok (.aload_n 0, 1) := by decide +kernel
theorem dX13_absent_9 : decode cX13_absent 9 = .ok (.iload_n 2, 1) := by decide +kernel
theorem dX13_absent_10 : decode cX13_absent 10 = .ok (.invokevirtual 372, 3) := by decide +kernel
theorem dX13_absent_13 : decode cX13_absent 13 = .ok (.ifCond .ne 6, 3) := by decide +kernel
theorem dX13_absent_16 : decode cX13_absent 16 = .ok (.bipush (-2), 2) := by decide +kernel
theorem dX13_absent_18 : decode cX13_absent 18 = .ok (.ireturn, 1) := by decide +kernel
theorem dX13_absent_19 : decode cX13_absent 19 = .ok (.aload_n 0, 1) := by decide +kernel
theorem dX13_absent_20 : decode cX13_absent 20 = .ok (.iload_n 2, 1) := by decide +kernel
theorem dX13_absent_21 : decode cX13_absent 21 = .ok (.invokevirtual 458, 3) := by decide +kernel
theorem dX13_absent_24 : decode cX13_absent 24 = .ok (.ifCond .eq 23, 3) := by decide +kernel
theorem dX13_absent_27 : decode cX13_absent 27 = .ok (.aload_n 0, 1) := by decide +kernel
theorem dX13_absent_28 : decode cX13_absent 28 = .ok (.iload_n 1, 1) := by decide +kernel
theorem dX13_absent_29 : decode cX13_absent 29 = .ok (.iconst 1, 1) := by decide +kernel
theorem dX13_absent_30 : decode cX13_absent 30 = .ok (.iload_n 2, 1) := by decide +kernel
theorem dX13_absent_31 : decode cX13_absent 31 = .ok (.iload_n 3, 1) := by decide +kernel
theorem dX13_absent_32 : decode cX13_absent 32 = .ok (.ifCond .eq 7, 3) := by decide +kernel
theorem dX13_absent_35 : decode cX13_absent 35 = .ok (.iconst 1, 1) := by decide +kernel
theorem dX13_absent_36 : decode cX13_absent 36 = .ok (.goto 4, 3) := by decide +kernel
theorem dX13_absent_39 : decode cX13_absent 39 = .ok (.iconst 0, 1) := by decide +kernel
theorem dX13_absent_40 : decode cX13_absent 40 = .ok (.iconst 0, 1) := by decide +kernel
theorem dX13_absent_41 : decode cX13_absent 41 = .ok (.invokevirtual 461, 3) := by decide +kernel
theorem dX13_absent_44 : decode cX13_absent 44 = .ok (.goto 5, 3) := by decide +kernel
theorem dX13_absent_47 : decode cX13_absent 47 = .ok (.bipush (-4), 2) := by decide +kernel
theorem dX13_absent_49 : decode cX13_absent 49 = .ok (.ireturn, 1) := by decide +kernel
noncomputable def tX13_absent_8 : qT (Int32 × qM) :=
  oC (.int (-2 : Int32)) (eI)
noncomputable def wX13_absent_8 (k : qM → Option (Int32 × qM)) : qT (Int32 × qM) := fun lo st m => match lo, st with
  | [_, _, _, _], [] => k m
  | _, _ => none
set_option maxRecDepth 20000 in
theorem sX13_absent_8 {C : qCx} {w : qWp} (h : qOk C w RX13 cX13_absent 4 3 155 155) (hm : qMt C (some .int)) (hx : qNx C) : qSnd C w 4 155 (qQf C w 155 155 jI) qfin 155 16 (tX13_absent_8) :=
  cB (pc := 16) h dX13_absent_16 rfl (zI (pc := 18) h hm (Nat.le_refl _) dX13_absent_18)
set_option maxRecDepth 20000 in
theorem lX13_absent_8 (m : qM) : tX13_absent_8 [none, none, none, none] [] m = fX13_absent_8 m := rfl
theorem bX13_absent_8 {C : qCx} {w : qWp} (h : qOk C w RX13 cX13_absent 4 3 155 155) (hm : qMt C (some .int)) (hx : qNx C) : qSnd C w 4 155 (qQf C w 155 155 jI) qfin 155 16 (wX13_absent_8 fX13_absent_8) :=
  qSnd_of (fun lo st m x hr0 => by
    unfold wX13_absent_8 at hr0
    split at hr0
    · exact ⟨_, (qsub_n (qsub_n (qsub_n (qsub_n qsub_nil)))), (lX13_absent_8 _).trans hr0⟩
    · cases hr0) (sX13_absent_8 h hm hx)
noncomputable def tX13_absent_27 : qT (Int32 × qM) :=
  eI
noncomputable def wX13_absent_27 (k : Int32 → qM → Option (Int32 × qM)) : qT (Int32 × qM) := fun lo st m => match lo, st with
  | [_, _, _, _], [.int s0] => k s0 m
  | _, _ => none
set_option maxRecDepth 20000 in
theorem sX13_absent_27 {C : qCx} {w : qWp} (h : qOk C w RX13 cX13_absent 4 3 155 155) (hm : qMt C (some .int)) (hx : qNx C) : qSnd C w 4 155 (qQf C w 155 155 jI) qfin 155 49 (tX13_absent_27) :=
  zI (pc := 49) h hm (Nat.le_refl _) dX13_absent_49
set_option maxRecDepth 20000 in
theorem lX13_absent_27 (s0 : Int32) (m : qM) : tX13_absent_27 [none, none, none, none] [(.int s0)] m = fX13_absent_27 s0 m := rfl
theorem bX13_absent_27 {C : qCx} {w : qWp} (h : qOk C w RX13 cX13_absent 4 3 155 155) (hm : qMt C (some .int)) (hx : qNx C) : qSnd C w 4 155 (qQf C w 155 155 jI) qfin 155 49 (wX13_absent_27 fX13_absent_27) :=
  qSnd_of (fun lo st m x hr0 => by
    unfold wX13_absent_27 at hr0
    split at hr0
    · exact ⟨_, (qsub_n (qsub_n (qsub_n (qsub_n qsub_nil)))), (lX13_absent_27 _ _).trans hr0⟩
    · cases hr0) (sX13_absent_27 h hm hx)
noncomputable def tX13_absent_23 (j27 : qT (Int32 × qM)) : qT (Int32 × qM) :=
  oC (.int (0 : Int32)) (oCi GX13_tell 6 (j27))
noncomputable def wX13_absent_23 (k : Int32 → Int32 → Int32 → Int32 → qM → Option (Int32 × qM)) : qT (Int32 × qM) := fun lo st m => match lo, st with
  | [_, _, _, _], [.int s0, .int s1, .int s2, .int s3, .ref 98] => k s0 s1 s2 s3 m
  | _, _ => none
set_option maxRecDepth 20000 in
theorem sX13_absent_23 {C : qCx} {w : qWp} (h : qOk C w RX13 cX13_absent 4 3 155 155) (hm : qMt C (some .int)) (hx : qNx C) {j27 : qT (Int32 × qM)} (k27 : qSnd C w 4 155 (qQf C w 155 155 jI) qfin 155 49 j27) : qSnd C w 4 155 (qQf C w 155 155 jI) qfin 155 40 (tX13_absent_23 j27) :=
  cC (pc := 40) h dX13_absent_40 rfl (kCi (pc := 41) h (kd_X13_461 h dX13_absent_41) spX13_tell (by decide) (by decide) (by decide) (by decide) (jGo (pc := 44) h dX13_absent_44 rfl (k27)))
set_option maxRecDepth 20000 in
theorem lX13_absent_23 (s0 : Int32) (s1 : Int32) (s2 : Int32) (s3 : Int32) (m : qM) : tX13_absent_23 (wX13_absent_27 fX13_absent_27) [none, none, none, none] [(.int s0), (.int s1), (.int s2), (.int s3), (.ref 98)] m = fX13_absent_23 s0 s1 s2 s3 m := rfl
theorem bX13_absent_23 {C : qCx} {w : qWp} (h : qOk C w RX13 cX13_absent 4 3 155 155) (hm : qMt C (some .int)) (hx : qNx C) : qSnd C w 4 155 (qQf C w 155 155 jI) qfin 155 40 (wX13_absent_23 fX13_absent_23) :=
  qSnd_of (fun lo st m x hr0 => by
    unfold wX13_absent_23 at hr0
    split at hr0
    · exact ⟨_, (qsub_n (qsub_n (qsub_n (qsub_n qsub_nil)))), (lX13_absent_23 _ _ _ _ _).trans hr0⟩
    · cases hr0) (sX13_absent_23 h hm hx (bX13_absent_27 h hm hx))
noncomputable def tX13_absent_0 (j8 : qT (Int32 × qM)) (j27 : qT (Int32 × qM)) (j23 : qT (Int32 × qM)) : qT (Int32 × qM) :=
  oLa 0 (oLi 1 (oCi GX13_isNext 2 (oEq (j8) (oLa 0 (oLi 2 (oCi GX13_isAsk 2 (oEq (j8) (oLa 0 (oLi 2 (oCi GX13_isMeeting 2 (oEq (oC (.int (-4 : Int32)) (j27)) (oLa 0 (oLi 1 (oC (.int (1 : Int32)) (oLi 2 (oLi 3 (oEq (oC (.int (0 : Int32)) (j23)) (oC (.int (1 : Int32)) (j23)))))))))))))))))))
set_option maxRecDepth 20000 in
theorem sX13_absent_0 {C : qCx} {w : qWp} (h : qOk C w RX13 cX13_absent 4 3 155 155) (hm : qMt C (some .int)) (hx : qNx C) {j8 : qT (Int32 × qM)} {j27 : qT (Int32 × qM)} {j23 : qT (Int32 × qM)} (k8 : qSnd C w 4 155 (qQf C w 155 155 jI) qfin 155 16 j8) (k27 : qSnd C w 4 155 (qQf C w 155 155 jI) qfin 155 49 j27) (k23 : qSnd C w 4 155 (qQf C w 155 155 jI) qfin 155 40 j23) : qSnd C w 4 155 (qQf C w 155 155 jI) qfin 155 0 (tX13_absent_0 j8 j27 j23) :=
  cLa (pc := 0) h dX13_absent_0 rfl (cLi (pc := 1) h dX13_absent_1 rfl (kCi (pc := 2) h (kd_X13_455 h dX13_absent_2) spX13_isNext (by decide) (by decide) (by decide) (by decide) (jEq (pc := 5) h dX13_absent_5 rfl (k8) (cLa (pc := 8) h dX13_absent_8 rfl (cLi (pc := 9) h dX13_absent_9 rfl (kCi (pc := 10) h (kd_X13_372 h dX13_absent_10) spX13_isAsk (by decide) (by decide) (by decide) (by decide) (jNe (pc := 13) h dX13_absent_13 rfl (cLa (pc := 19) h dX13_absent_19 rfl (cLi (pc := 20) h dX13_absent_20 rfl (kCi (pc := 21) h (kd_X13_458 h dX13_absent_21) spX13_isMeeting (by decide) (by decide) (by decide) (by decide) (jEq (pc := 24) h dX13_absent_24 rfl (cB (pc := 47) h dX13_absent_47 rfl (k27)) (cLa (pc := 27) h dX13_absent_27 rfl (cLi (pc := 28) h dX13_absent_28 rfl (cC (pc := 29) h dX13_absent_29 rfl (cLi (pc := 30) h dX13_absent_30 rfl (cLi (pc := 31) h dX13_absent_31 rfl (jEq (pc := 32) h dX13_absent_32 rfl (cC (pc := 39) h dX13_absent_39 rfl (k23)) (cC (pc := 35) h dX13_absent_35 rfl (jGo (pc := 36) h dX13_absent_36 rfl (k23))))))))))))) (k8))))))))
set_option maxRecDepth 20000 in
theorem lX13_absent_0 (a1 : Int32) (a2 : Int32) (a3 : Int32) (m : qM) : tX13_absent_0 (wX13_absent_8 fX13_absent_8) (wX13_absent_27 fX13_absent_27) (wX13_absent_23 fX13_absent_23) [some (.ref 98), some (.int a1), some (.int a2), some (.int a3)] [] m = fX13_absent_0 a1 a2 a3 m := rfl
noncomputable def GX13_absent : qG Int32 := fun av m => match av with
  | [.ref 98, .int a1, .int a2, .int a3] => fX13_absent a1 a2 a3 m
  | _ => none
theorem spX13_absent : qSpI yX13_absent (.code yX13_absent cX13_absent 4 (some .int)) 3 qfin 155 155 1 GX13_absent := by
  intro av m x m' hG
  unfold GX13_absent at hG
  split at hG
  · rename_i a1 a2 a3
    rw [fX13_absent_d] at hG
    exact ⟨qmeet (J := jI) (r := (x, m')) (av := [.ref 98, .int a1, .int a2, .int a3]) (by decide +kernel) (Nat.le_of_ble_eq_true rfl) (fun C w h hm hx hn => sX13_absent_0 h hm hx (bX13_absent_8 h hm hx) (bX13_absent_27 h hm hx) (bX13_absent_23 h hm hx)) ((lX13_absent_0 _ _ _ _).trans hG) (Nat.le_of_ble_eq_true rfl), Or.inl ⟨98, _, 13, _, _, rfl, by decide, rfl, qCk_13, rfl⟩⟩
  · cases hG
theorem dX13_comes_0 : decode cX13_comes 0 = .ok (.aload_n 0, 1) := by decide +kernel
theorem dX13_comes_1 : decode cX13_comes 1 = .ok (.iload_n 1, 1) := by decide +kernel
theorem dX13_comes_2 : decode cX13_comes 2 = .ok (.invokevirtual 455, 3) := by decide +kernel
theorem dX13_comes_5 : decode cX13_comes 5 = .ok (.ifCond .eq 18, 3) := by decide +kernel
theorem dX13_comes_8 : decode cX13_comes 8 = .ok (.iload_n 2, 1) := by decide +kernel
theorem dX13_comes_9 : decode cX13_comes 9 = .ok (.invokestatic 358, 3) := by decide +kernel
theorem dX13_comes_12 : decode cX13_comes 12 = .ok (.ifCond .eq 11, 3) := by decide +kernel
theorem dX13_comes_15 : decode cX13_comes 15 = .ok (.aload_n 0, 1) := by decide +kernel
theorem dX13_comes_16 : decode cX13_comes 16 = .ok (.iload_n 3, 1) := by decide +kernel
theorem dX13_comes_17 : decode cX13_comes 17 = .ok (.invokevirtual 449, 3) := by decide +kernel
theorem dX13_comes_20 : decode cX13_comes 20 = .ok (.ifCond .ne 6, 3) := by decide +kernel
theorem dX13_comes_23 : decode cX13_comes 23 = .ok (.bipush (-2), 2) := by decide +kernel
theorem dX13_comes_25 : decode cX13_comes 25 = .ok (.ireturn, 1) := by decide +kernel
theorem dX13_comes_26 : decode cX13_comes 26 = .ok (.aload_n 0, 1) := by decide +kernel
theorem dX13_comes_27 : decode cX13_comes 27 = .ok (.getfield 316, 3) := by decide +kernel
theorem dX13_comes_30 : decode cX13_comes 30 = .ok (.ifCond .eq 15, 3) := by decide +kernel
theorem dX13_comes_33 : decode cX13_comes 33 = .ok (.aload_n 0, 1) := by decide +kernel
theorem dX13_comes_34 : decode cX13_comes 34 = .ok (.iload_n 1, 1) := by decide +kernel
theorem dX13_comes_35 : decode cX13_comes 35 = .ok (.iconst 2, 1) := by decide +kernel
theorem dX13_comes_36 : decode cX13_comes 36 = .ok (.iload_n 2, 1) := by decide +kernel
theorem dX13_comes_37 : decode cX13_comes 37 = .ok (.iload_n 3, 1) := by decide +kernel
theorem dX13_comes_38 : decode cX13_comes 38 = .ok (.iconst 0, 1) := by decide +kernel
theorem dX13_comes_39 : decode cX13_comes 39 = .ok (.invokevirtual 461, 3) := by decide +kernel
theorem dX13_comes_42 : decode cX13_comes 42 = .ok (.goto 5, 3) := by decide +kernel
theorem dX13_comes_45 : decode cX13_comes 45 = .ok (.bipush (-4), 2) := by decide +kernel
theorem dX13_comes_47 : decode cX13_comes 47 = .ok (.ireturn, 1) := by decide +kernel
noncomputable def tX13_comes_11 : qT (Int32 × qM) :=
  oC (.int (-2 : Int32)) (eI)
noncomputable def wX13_comes_11 (k : qM → Option (Int32 × qM)) : qT (Int32 × qM) := fun lo st m => match lo, st with
  | [_, _, _, _], [] => k m
  | _, _ => none
set_option maxRecDepth 20000 in
theorem sX13_comes_11 {C : qCx} {w : qWp} (h : qOk C w RX13 cX13_comes 4 3 155 155) (hm : qMt C (some .int)) (hx : qNx C) : qSnd C w 4 155 (qQf C w 155 155 jI) qfin 155 23 (tX13_comes_11) :=
  cB (pc := 23) h dX13_comes_23 rfl (zI (pc := 25) h hm (Nat.le_refl _) dX13_comes_25)
set_option maxRecDepth 20000 in
theorem lX13_comes_11 (m : qM) : tX13_comes_11 [none, none, none, none] [] m = fX13_comes_11 m := rfl
theorem bX13_comes_11 {C : qCx} {w : qWp} (h : qOk C w RX13 cX13_comes 4 3 155 155) (hm : qMt C (some .int)) (hx : qNx C) : qSnd C w 4 155 (qQf C w 155 155 jI) qfin 155 23 (wX13_comes_11 fX13_comes_11) :=
  qSnd_of (fun lo st m x hr0 => by
    unfold wX13_comes_11 at hr0
    split at hr0
    · exact ⟨_, (qsub_n (qsub_n (qsub_n (qsub_n qsub_nil)))), (lX13_comes_11 _).trans hr0⟩
    · cases hr0) (sX13_comes_11 h hm hx)
noncomputable def tX13_comes_25 : qT (Int32 × qM) :=
  eI
noncomputable def wX13_comes_25 (k : Int32 → qM → Option (Int32 × qM)) : qT (Int32 × qM) := fun lo st m => match lo, st with
  | [_, _, _, _], [.int s0] => k s0 m
  | _, _ => none
set_option maxRecDepth 20000 in
theorem sX13_comes_25 {C : qCx} {w : qWp} (h : qOk C w RX13 cX13_comes 4 3 155 155) (hm : qMt C (some .int)) (hx : qNx C) : qSnd C w 4 155 (qQf C w 155 155 jI) qfin 155 47 (tX13_comes_25) :=
  zI (pc := 47) h hm (Nat.le_refl _) dX13_comes_47
set_option maxRecDepth 20000 in
theorem lX13_comes_25 (s0 : Int32) (m : qM) : tX13_comes_25 [none, none, none, none] [(.int s0)] m = fX13_comes_25 s0 m := rfl
theorem bX13_comes_25 {C : qCx} {w : qWp} (h : qOk C w RX13 cX13_comes 4 3 155 155) (hm : qMt C (some .int)) (hx : qNx C) : qSnd C w 4 155 (qQf C w 155 155 jI) qfin 155 47 (wX13_comes_25 fX13_comes_25) :=
  qSnd_of (fun lo st m x hr0 => by
    unfold wX13_comes_25 at hr0
    split at hr0
    · exact ⟨_, (qsub_n (qsub_n (qsub_n (qsub_n qsub_nil)))), (lX13_comes_25 _ _).trans hr0⟩
    · cases hr0) (sX13_comes_25 h hm hx)
noncomputable def tX13_comes_0 (j11 : qT (Int32 × qM)) (j25 : qT (Int32 × qM)) : qT (Int32 × qM) :=
  oLa 0 (oLi 1 (oCi GX13_isNext 2 (oEq (j11) (oLi 2 (oCi GX13_isFamily 1 (oEq (j11) (oLa 0 (oLi 3 (oCi GX13_isMinute 2 (oEq (j11) (oLa 0 (oGi 98 33 (oEq (oC (.int (-4 : Int32)) (j25)) (oLa 0 (oLi 1 (oC (.int (2 : Int32)) (oLi 2 (oLi 3 (oC (.int (0 : Int32)) (oCi GX13_tell 6 (j25)))))))))))))))))))))
set_option maxRecDepth 20000 in
theorem sX13_comes_0 {C : qCx} {w : qWp} (h : qOk C w RX13 cX13_comes 4 3 155 155) (hm : qMt C (some .int)) (hx : qNx C) {j11 : qT (Int32 × qM)} {j25 : qT (Int32 × qM)} (k11 : qSnd C w 4 155 (qQf C w 155 155 jI) qfin 155 23 j11) (k25 : qSnd C w 4 155 (qQf C w 155 155 jI) qfin 155 47 j25) : qSnd C w 4 155 (qQf C w 155 155 jI) qfin 155 0 (tX13_comes_0 j11 j25) :=
  cLa (pc := 0) h dX13_comes_0 rfl (cLi (pc := 1) h dX13_comes_1 rfl (kCi (pc := 2) h (kd_X13_455 h dX13_comes_2) spX13_isNext (by decide) (by decide) (by decide) (by decide) (jEq (pc := 5) h dX13_comes_5 rfl (k11) (cLi (pc := 8) h dX13_comes_8 rfl (kCi (pc := 9) h (kd_X13_358 h dX13_comes_9) spX13_isFamily (by decide) (by decide) (by decide) (by decide) (jEq (pc := 12) h dX13_comes_12 rfl (k11) (cLa (pc := 15) h dX13_comes_15 rfl (cLi (pc := 16) h dX13_comes_16 rfl (kCi (pc := 17) h (kd_X13_449 h dX13_comes_17) spX13_isMinute (by decide) (by decide) (by decide) (by decide) (jNe (pc := 20) h dX13_comes_20 rfl (cLa (pc := 26) h dX13_comes_26 rfl (gGz (pc := 27) h dX13_comes_27 ff_X13_316_98 (Nat.le_of_ble_eq_true rfl) (Nat.le_of_ble_eq_true rfl) (jEq (pc := 30) h dX13_comes_30 rfl (cB (pc := 45) h dX13_comes_45 rfl (k25)) (cLa (pc := 33) h dX13_comes_33 rfl (cLi (pc := 34) h dX13_comes_34 rfl (cC (pc := 35) h dX13_comes_35 rfl (cLi (pc := 36) h dX13_comes_36 rfl (cLi (pc := 37) h dX13_comes_37 rfl (cC (pc := 38) h dX13_comes_38 rfl (kCi (pc := 39) h (kd_X13_461 h dX13_comes_39) spX13_tell (by decide) (by decide) (by decide) (by decide) (jGo (pc := 42) h dX13_comes_42 rfl (k25)))))))))))) (k11)))))))))))
set_option maxRecDepth 20000 in
theorem lX13_comes_0 (a1 : Int32) (a2 : Int32) (a3 : Int32) (m : qM) : tX13_comes_0 (wX13_comes_11 fX13_comes_11) (wX13_comes_25 fX13_comes_25) [some (.ref 98), some (.int a1), some (.int a2), some (.int a3)] [] m = fX13_comes_0 a1 a2 a3 m := rfl
noncomputable def GX13_comes : qG Int32 := fun av m => match av with
  | [.ref 98, .int a1, .int a2, .int a3] => fX13_comes a1 a2 a3 m
  | _ => none
theorem spX13_comes : qSpI yX13_comes (.code yX13_comes cX13_comes 4 (some .int)) 3 qfin 155 155 1 GX13_comes := by
  intro av m x m' hG
  unfold GX13_comes at hG
  split at hG
  · rename_i a1 a2 a3
    rw [fX13_comes_d] at hG
    exact ⟨qmeet (J := jI) (r := (x, m')) (av := [.ref 98, .int a1, .int a2, .int a3]) (by decide +kernel) (Nat.le_of_ble_eq_true rfl) (fun C w h hm hx hn => sX13_comes_0 h hm hx (bX13_comes_11 h hm hx) (bX13_comes_25 h hm hx)) ((lX13_comes_0 _ _ _ _).trans hG) (Nat.le_of_ble_eq_true rfl), Or.inl ⟨98, _, 13, _, _, rfl, by decide, rfl, qCk_13, rfl⟩⟩
  · cases hG
theorem dX13_away_0 : decode cX13_away 0 = .ok (.aload_n 0, 1) := by decide +kernel
theorem dX13_away_1 : decode cX13_away 1 = .ok (.iload_n 1, 1) := by decide +kernel
theorem dX13_away_2 : decode cX13_away 2 = .ok (.invokevirtual 455, 3) := by decide +kernel
theorem dX13_away_5 : decode cX13_away 5 = .ok (.ifCond .eq 32, 3) := by decide +kernel
theorem dX13_away_8 : decode cX13_away 8 = .ok (.iload_n 2, 1) := by decide +kernel
theorem dX13_away_9 : decode cX13_away 9 = .ok (.invokestatic 340, 3) := by decide +kernel
theorem dX13_away_12 : decode cX13_away 12 = .ok (.ifCond .eq 25, 3) := by decide +kernel
theorem dX13_away_15 : decode cX13_away 15 = .ok (.aload_n 0, 1) := by decide +kernel
theorem dX13_away_16 : decode cX13_away 16 = .ok (.iload_n 3, 1) := by decide +kernel
theorem dX13_away_17 : decode cX13_away 17 = .ok (.invokevirtual 449, 3) := by decide +kernel
theorem dX13_away_20 : decode cX13_away 20 = .ok (.ifCond .eq 17, 3) := by decide +kernel
theorem dX13_away_23 : decode cX13_away 23 = .ok (.iload 4, 2) := by decide +kernel
theorem dX13_away_25 : decode cX13_away 25 = .ok (.i2l, 1) := by decide +kernel
theorem dX13_away_26 : decode cX13_away 26 = .ok (.iload_n 3, 1) := by decide +kernel
theorem dX13_away_27 : decode cX13_away 27 = .ok (.i2l, 1) := by decide +kernel
theorem dX13_away_28 : decode cX13_away 28 = .ok (.ldc2_w 447, 3) := by decide +kernel
theorem dX13_away_31 : decode cX13_away 31 = .ok (.invokestatic 66, 3) := by decide +kernel
theorem dX13_away_34 : decode cX13_away 34 = .ok (.ifCond .ne 6, 3) := by decide +kernel
theorem dX13_away_37 : decode cX13_away 37 = .ok (.bipush (-2), 2) := by decide +kernel
theorem dX13_away_39 : decode cX13_away 39 = .ok (.ireturn, 1) := by decide +kernel
theorem dX13_away_40 : decode cX13_away 40 = .ok (.aload_n 0, 1) := by decide +kernel
theorem dX13_away_41 : decode cX13_away 41 = .ok (.getfield 316, 3) := by decide +kernel
theorem dX13_away_44 : decode cX13_away 44 = .ok (.ifCond .eq 16, 3) := by decide +kernel
theorem dX13_away_47 : decode cX13_away 47 = .ok (.aload_n 0, 1) := by decide +kernel
theorem dX13_away_48 : decode cX13_away 48 = .ok (.iload_n 1, 1) := by decide +kernel
theorem dX13_away_49 : decode cX13_away 49 = .ok (.iconst 3, 1) := by decide +kernel
theorem dX13_away_50 : decode cX13_away 50 = .ok (.iload_n 2, 1) := by decide +kernel
theorem dX13_away_51 : decode cX13_away 51 = .ok (.iload_n 3, 1) := by decide +kernel
theorem dX13_away_52 : decode cX13_away 52 = .ok (.iload 4, 2) := by decide +kernel
theorem dX13_away_54 : decode cX13_away 54 = .ok (.invokevirtual 461, 3) := by decide +kernel
theorem dX13_away_57 : decode cX13_away 57 = .ok (.goto 5, 3) := by decide +kernel
theorem dX13_away_60 : decode cX13_away 60 = .ok (.bipush (-4), 2) := by decide +kernel
theorem dX13_away_62 : decode cX13_away 62 = .ok (.ireturn, 1) := by decide +kernel
noncomputable def tX13_away_18 : qT (Int32 × qM) :=
  oC (.int (-2 : Int32)) (eI)
noncomputable def wX13_away_18 (k : qM → Option (Int32 × qM)) : qT (Int32 × qM) := fun lo st m => match lo, st with
  | [_, _, _, _, _], [] => k m
  | _, _ => none
set_option maxRecDepth 20000 in
theorem sX13_away_18 {C : qCx} {w : qWp} (h : qOk C w RX13 cX13_away 5 3 155 155) (hm : qMt C (some .int)) (hx : qNx C) : qSnd C w 5 155 (qQf C w 155 155 jI) qfin 155 37 (tX13_away_18) :=
  cB (pc := 37) h dX13_away_37 rfl (zI (pc := 39) h hm (Nat.le_refl _) dX13_away_39)
set_option maxRecDepth 20000 in
theorem lX13_away_18 (m : qM) : tX13_away_18 [none, none, none, none, none] [] m = fX13_away_18 m := rfl
theorem bX13_away_18 {C : qCx} {w : qWp} (h : qOk C w RX13 cX13_away 5 3 155 155) (hm : qMt C (some .int)) (hx : qNx C) : qSnd C w 5 155 (qQf C w 155 155 jI) qfin 155 37 (wX13_away_18 fX13_away_18) :=
  qSnd_of (fun lo st m x hr0 => by
    unfold wX13_away_18 at hr0
    split at hr0
    · exact ⟨_, (qsub_n (qsub_n (qsub_n (qsub_n (qsub_n qsub_nil))))), (lX13_away_18 _).trans hr0⟩
    · cases hr0) (sX13_away_18 h hm hx)
noncomputable def tX13_away_32 : qT (Int32 × qM) :=
  eI
noncomputable def wX13_away_32 (k : Int32 → qM → Option (Int32 × qM)) : qT (Int32 × qM) := fun lo st m => match lo, st with
  | [_, _, _, _, _], [.int s0] => k s0 m
  | _, _ => none
set_option maxRecDepth 20000 in
theorem sX13_away_32 {C : qCx} {w : qWp} (h : qOk C w RX13 cX13_away 5 3 155 155) (hm : qMt C (some .int)) (hx : qNx C) : qSnd C w 5 155 (qQf C w 155 155 jI) qfin 155 62 (tX13_away_32) :=
  zI (pc := 62) h hm (Nat.le_refl _) dX13_away_62
set_option maxRecDepth 20000 in
theorem lX13_away_32 (s0 : Int32) (m : qM) : tX13_away_32 [none, none, none, none, none] [(.int s0)] m = fX13_away_32 s0 m := rfl
theorem bX13_away_32 {C : qCx} {w : qWp} (h : qOk C w RX13 cX13_away 5 3 155 155) (hm : qMt C (some .int)) (hx : qNx C) : qSnd C w 5 155 (qQf C w 155 155 jI) qfin 155 62 (wX13_away_32 fX13_away_32) :=
  qSnd_of (fun lo st m x hr0 => by
    unfold wX13_away_32 at hr0
    split at hr0
    · exact ⟨_, (qsub_n (qsub_n (qsub_n (qsub_n (qsub_n qsub_nil))))), (lX13_away_32 _ _).trans hr0⟩
    · cases hr0) (sX13_away_32 h hm hx)
noncomputable def tX13_away_0 (j18 : qT (Int32 × qM)) (j32 : qT (Int32 × qM)) : qT (Int32 × qM) :=
  oLa 0 (oLi 1 (oCi GX13_isNext 2 (oEq (j18) (oLi 2 (oCi GX13_isTeacher 1 (oEq (j18) (oLa 0 (oLi 3 (oCi GX13_isMinute 2 (oEq (j18) (oLi 4 (oI2l (oLi 3 (oI2l (oC (.long (799 : Int64)) (oCi GX13_in 3 (oEq (j18) (oLa 0 (oGi 98 33 (oEq (oC (.int (-4 : Int32)) (j32)) (oLa 0 (oLi 1 (oC (.int (3 : Int32)) (oLi 2 (oLi 3 (oLi 4 (oCi GX13_tell 6 (j32))))))))))))))))))))))))))))
set_option maxRecDepth 20000 in
theorem sX13_away_0 {C : qCx} {w : qWp} (h : qOk C w RX13 cX13_away 5 3 155 155) (hm : qMt C (some .int)) (hx : qNx C) {j18 : qT (Int32 × qM)} {j32 : qT (Int32 × qM)} (k18 : qSnd C w 5 155 (qQf C w 155 155 jI) qfin 155 37 j18) (k32 : qSnd C w 5 155 (qQf C w 155 155 jI) qfin 155 62 j32) : qSnd C w 5 155 (qQf C w 155 155 jI) qfin 155 0 (tX13_away_0 j18 j32) :=
  cLa (pc := 0) h dX13_away_0 rfl (cLi (pc := 1) h dX13_away_1 rfl (kCi (pc := 2) h (kd_X13_455 h dX13_away_2) spX13_isNext (by decide) (by decide) (by decide) (by decide) (jEq (pc := 5) h dX13_away_5 rfl (k18) (cLi (pc := 8) h dX13_away_8 rfl (kCi (pc := 9) h (kd_X13_340 h dX13_away_9) spX13_isTeacher (by decide) (by decide) (by decide) (by decide) (jEq (pc := 12) h dX13_away_12 rfl (k18) (cLa (pc := 15) h dX13_away_15 rfl (cLi (pc := 16) h dX13_away_16 rfl (kCi (pc := 17) h (kd_X13_449 h dX13_away_17) spX13_isMinute (by decide) (by decide) (by decide) (by decide) (jEq (pc := 20) h dX13_away_20 rfl (k18) (cLI (pc := 23) h dX13_away_23 (aI2l (pc := 25) h dX13_away_25 (cLi (pc := 26) h dX13_away_26 rfl (aI2l (pc := 27) h dX13_away_27 (cKJ (pc := 28) h dX13_away_28 fc_X13_447 (kCi (pc := 31) h (kd_X13_66 h dX13_away_31) spX13_in (by decide) (by decide) (by decide) (by decide) (jNe (pc := 34) h dX13_away_34 rfl (cLa (pc := 40) h dX13_away_40 rfl (gGz (pc := 41) h dX13_away_41 ff_X13_316_98 (Nat.le_of_ble_eq_true rfl) (Nat.le_of_ble_eq_true rfl) (jEq (pc := 44) h dX13_away_44 rfl (cB (pc := 60) h dX13_away_60 rfl (k32)) (cLa (pc := 47) h dX13_away_47 rfl (cLi (pc := 48) h dX13_away_48 rfl (cC (pc := 49) h dX13_away_49 rfl (cLi (pc := 50) h dX13_away_50 rfl (cLi (pc := 51) h dX13_away_51 rfl (cLI (pc := 52) h dX13_away_52 (kCi (pc := 54) h (kd_X13_461 h dX13_away_54) spX13_tell (by decide) (by decide) (by decide) (by decide) (jGo (pc := 57) h dX13_away_57 rfl (k32)))))))))))) (k18))))))))))))))))))
set_option maxRecDepth 20000 in
theorem lX13_away_0 (a1 : Int32) (a2 : Int32) (a3 : Int32) (a4 : Int32) (m : qM) : tX13_away_0 (wX13_away_18 fX13_away_18) (wX13_away_32 fX13_away_32) [some (.ref 98), some (.int a1), some (.int a2), some (.int a3), some (.int a4)] [] m = fX13_away_0 a1 a2 a3 a4 m := rfl
noncomputable def GX13_away : qG Int32 := fun av m => match av with
  | [.ref 98, .int a1, .int a2, .int a3, .int a4] => fX13_away a1 a2 a3 a4 m
  | _ => none
theorem spX13_away : qSpI yX13_away (.code yX13_away cX13_away 5 (some .int)) 3 qfin 155 155 1 GX13_away := by
  intro av m x m' hG
  unfold GX13_away at hG
  split at hG
  · rename_i a1 a2 a3 a4
    rw [fX13_away_d] at hG
    exact ⟨qmeet (J := jI) (r := (x, m')) (av := [.ref 98, .int a1, .int a2, .int a3, .int a4]) (by decide +kernel) (Nat.le_of_ble_eq_true rfl) (fun C w h hm hx hn => sX13_away_0 h hm hx (bX13_away_18 h hm hx) (bX13_away_32 h hm hx)) ((lX13_away_0 _ _ _ _ _).trans hG) (Nat.le_of_ble_eq_true rfl), Or.inl ⟨98, _, 13, _, _, rfl, by decide, rfl, qCk_13, rfl⟩⟩
  · cases hG

