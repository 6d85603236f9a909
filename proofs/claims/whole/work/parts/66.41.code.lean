/-! methods (by program): X13_next, X13_messages, X13_mend, X13_note, X13_let, X13_mayRead, X13_read, X13_small, X13_isLetterAt, X13_hasWord -/
theorem im_X13_nextOf : Jvm.Cond.instanceMethod yX13_nextOf ∈ qTw := qm9 (List.mem_of_getElem? (i := 112) (by decide +kernel)) (by decide +kernel)
theorem se_X13_nextOf : Jvm.Cond.selects yX13_nextOf.cls yX13_nextOf yX13_nextOf ∈ qTw := List.mem_filter.mpr ⟨List.mem_append_left _ (List.mem_of_getElem? (i := 84) (by decide +kernel)), rfl⟩
theorem co_X13_nextOf : Jvm.Cond.code yX13_nextOf cX13_nextOf 5 (some .int) ∈ qTw := qm9 (List.mem_of_getElem? (i := 113) (by decide +kernel)) (by decide +kernel)
theorem yk_X13_nextOf : qYk yX13_nextOf 2 := ⟨⟨by decide +kernel, by decide +kernel⟩, by decide +kernel⟩
theorem ml_X13_506 : Jvm.Cond.methodLink RX13 506 yX13_nextOf ∈ qTw := qm9 (List.mem_of_getElem? (i := 110) (by decide +kernel)) (by decide +kernel)
theorem kd_X13_506 {C : qCx} {w : qWp} {cc : ByteArray} {nL dp n0 n1 pc : Nat} (h : qOk C w RX13 cc nL dp n0 n1) (d : decode cc pc = .ok (.invokevirtual 506, 3)) : qCallOk C w nL dp n0 n1 pc 3 1 yX13_nextOf (.code yX13_nextOf cX13_nextOf 5 (some .int)) := kindV h d ml_X13_506 im_X13_nextOf se_X13_nextOf in_ParentEveModel co_X13_nextOf yk_X13_nextOf (by decide)
theorem dX13_next_0 : decode cX13_next 0 = .ok (.iload_n 1, 1) := by decide +kernel
theorem dX13_next_1 : decode cX13_next 1 = .ok (.invokestatic 358, 3) := by decide +kernel
theorem dX13_next_4 : decode cX13_next 4 = .ok (.ifCond .eq 11, 3) := by decide +kernel
theorem dX13_next_7 : decode cX13_next 7 = .ok (.aload_n 0, 1) := by decide +kernel
theorem dX13_next_8 : decode cX13_next 8 = .ok (.iload_n 2, 1) := by decide +kernel
theorem dX13_next_9 : decode cX13_next 9 = .ok (.invokevirtual 449, 3) := by decide +kernel
theorem dX13_next_12 : decode cX13_next 12 = .ok (.ifCond .ne 6, 3) := by decide +kernel
theorem dX13_next_15 : decode cX13_next 15 = .ok (.bipush (-2), 2) := by decide +kernel
theorem dX13_next_17 : decode cX13_next 17 = .ok (.ireturn, 1) := by decide +kernel
theorem dX13_next_18 : decode cX13_next 18 = .ok (.aload_n 0, 1) := by decide +kernel
theorem dX13_next_19 : decode cX13_next 19 = .ok (.getfield 316, 3) := by decide +kernel
theorem dX13_next_22 : decode cX13_next 22 = .ok (.ifCond .ne 6, 3) := by decide +kernel
theorem dX13_next_25 : decode cX13_next 25 = .ok (.bipush (-4), 2) := by decide +kernel
theorem dX13_next_27 : decode cX13_next 27 = .ok (.ireturn, 1) := by decide +kernel
theorem dX13_next_28 : decode cX13_next 28 = .ok (.aload_n 0, 1) := by decide +kernel
theorem dX13_next_29 : decode cX13_next 29 = .ok (.iload_n 2, 1) := by decide +kernel
theorem dX13_next_30 : decode cX13_next 30 = .ok (.invokevirtual 503, 3) := by decide +kernel
theorem dX13_next_33 : decode cX13_next 33 = .ok (.aload_n 0, 1) := by decide +kernel
theorem dX13_next_34 : decode cX13_next 34 = .ok (.iload_n 1, 1) := by decide +kernel
theorem dX13_next_35 : decode cX13_next 35 = .ok (.iload_n 2, 1) := by decide +kernel
theorem dX13_next_36 : decode cX13_next 36 = .ok (.invokevirtual 506, 3) := by decide +kernel
theorem dX13_next_39 : decode cX13_next 39 = .ok (.ireturn, 1) := by decide +kernel
noncomputable def tX13_next_7 : qT (Int32 × qM) :=
  oC (.int (-2 : Int32)) (eI)
noncomputable def wX13_next_7 (k : qM → Option (Int32 × qM)) : qT (Int32 × qM) := fun lo st m => match lo, st with
  | [_, _, _], [] => k m
  | _, _ => none
set_option maxRecDepth 20000 in
theorem sX13_next_7 {C : qCx} {w : qWp} (h : qOk C w RX13 cX13_next 3 7 155 155) (hm : qMt C (some .int)) (hx : qNx C) : qSnd C w 3 155 (qQf C w 155 155 jI) qfin 155 15 (tX13_next_7) :=
  cB (pc := 15) h dX13_next_15 rfl (zI (pc := 17) h hm (Nat.le_refl _) dX13_next_17)
set_option maxRecDepth 20000 in
theorem lX13_next_7 (m : qM) : tX13_next_7 [none, none, none] [] m = fX13_next_7 m := rfl
theorem bX13_next_7 {C : qCx} {w : qWp} (h : qOk C w RX13 cX13_next 3 7 155 155) (hm : qMt C (some .int)) (hx : qNx C) : qSnd C w 3 155 (qQf C w 155 155 jI) qfin 155 15 (wX13_next_7 fX13_next_7) :=
  qSnd_of (fun lo st m x hr0 => by
    unfold wX13_next_7 at hr0
    split at hr0
    · exact ⟨_, (qsub_n (qsub_n (qsub_n qsub_nil))), (lX13_next_7 _).trans hr0⟩
    · cases hr0) (sX13_next_7 h hm hx)
noncomputable def tX13_next_0 (j7 : qT (Int32 × qM)) : qT (Int32 × qM) :=
  oLi 1 (oCi GX13_isFamily 1 (oEq (j7) (oLa 0 (oLi 2 (oCi GX13_isMinute 2 (oEq (j7) (oLa 0 (oGi 98 33 (oEq (oC (.int (-4 : Int32)) (eI)) (oLa 0 (oLi 2 (oCv GX13_goThrough 2 (oLa 0 (oLi 1 (oLi 2 (oCi GX13_nextOf 3 (eI)))))))))))))))))
set_option maxRecDepth 20000 in
theorem sX13_next_0 {C : qCx} {w : qWp} (h : qOk C w RX13 cX13_next 3 7 155 155) (hm : qMt C (some .int)) (hx : qNx C) {j7 : qT (Int32 × qM)} (k7 : qSnd C w 3 155 (qQf C w 155 155 jI) qfin 155 15 j7) : qSnd C w 3 155 (qQf C w 155 155 jI) qfin 155 0 (tX13_next_0 j7) :=
  cLi (pc := 0) h dX13_next_0 rfl (kCi (pc := 1) h (kd_X13_358 h dX13_next_1) spX13_isFamily (by decide) (by decide) (by decide) (by decide) (jEq (pc := 4) h dX13_next_4 rfl (k7) (cLa (pc := 7) h dX13_next_7 rfl (cLi (pc := 8) h dX13_next_8 rfl (kCi (pc := 9) h (kd_X13_449 h dX13_next_9) spX13_isMinute (by decide) (by decide) (by decide) (by decide) (jNe (pc := 12) h dX13_next_12 rfl (cLa (pc := 18) h dX13_next_18 rfl (gGz (pc := 19) h dX13_next_19 ff_X13_316_98 (Nat.le_of_ble_eq_true rfl) (Nat.le_of_ble_eq_true rfl) (jNe (pc := 22) h dX13_next_22 rfl (cLa (pc := 28) h dX13_next_28 rfl (cLi (pc := 29) h dX13_next_29 rfl (kCv (pc := 30) h (kd_X13_503 h dX13_next_30) spX13_goThrough (by decide) (by decide) (by decide) (by decide) (cLa (pc := 33) h dX13_next_33 rfl (cLi (pc := 34) h dX13_next_34 rfl (cLi (pc := 35) h dX13_next_35 rfl (kCi (pc := 36) h (kd_X13_506 h dX13_next_36) spX13_nextOf (by decide) (by decide) (by decide) (by decide) (zI (pc := 39) h hm (Nat.le_refl _) dX13_next_39)))))))) (cB (pc := 25) h dX13_next_25 rfl (zI (pc := 27) h hm (Nat.le_refl _) dX13_next_27))))) (k7)))))))
set_option maxRecDepth 20000 in
theorem lX13_next_0 (a1 : Int32) (a2 : Int32) (m : qM) : tX13_next_0 (wX13_next_7 fX13_next_7) [some (.ref 98), some (.int a1), some (.int a2)] [] m = fX13_next_0 a1 a2 m := rfl
noncomputable def GX13_next : qG Int32 := fun av m => match av with
  | [.ref 98, .int a1, .int a2] => fX13_next a1 a2 m
  | _ => none
theorem spX13_next : qSpI yX13_next (.code yX13_next cX13_next 3 (some .int)) 7 qfin 155 155 1 GX13_next := by
  intro av m x m' hG
  unfold GX13_next at hG
  split at hG
  · rename_i a1 a2
    rw [fX13_next_d] at hG
    exact ⟨qmeet (J := jI) (r := (x, m')) (av := [.ref 98, .int a1, .int a2]) (by decide +kernel) (Nat.le_of_ble_eq_true rfl) (fun C w h hm hx hn => sX13_next_0 h hm hx (bX13_next_7 h hm hx)) ((lX13_next_0 _ _ _).trans hG) (Nat.le_of_ble_eq_true rfl), Or.inl ⟨98, _, 13, _, _, rfl, by decide, rfl, qCk_13, rfl⟩⟩
  · cases hG
theorem dX13_messages_0 : decode cX13_messages 0 = .ok (.iload_n 1, 1) := by decide +kernel
theorem dX13_messages_1 : decode cX13_messages 1 = .ok (.invokestatic 358, 3) := by decide +kernel
theorem dX13_messages_4 : decode cX13_messages 4 = .ok (.ifCond .ne 6, 3) := by decide +kernel
theorem dX13_messages_7 : decode cX13_messages 7 = .ok (.bipush (-2), 2) := by decide +kernel
theorem dX13_messages_9 : decode cX13_messages 9 = .ok (.ireturn, 1) := by decide +kernel
theorem dX13_messages_10 : decode cX13_messages 10 = .ok (.aload_n 0, 1) := by decide +kernel
theorem dX13_messages_11 : decode cX13_messages 11 = .ok (.getfield 316, 3) := by decide +kernel
theorem dX13_messages_14 : decode cX13_messages 14 = .ok (.ifCond .ne 6, 3) := by decide +kernel
theorem dX13_messages_17 : decode cX13_messages 17 = .ok (.bipush (-4), 2) := by decide +kernel
theorem dX13_messages_19 : decode cX13_messages 19 = .ok (.ireturn, 1) := by decide +kernel
theorem dX13_messages_20 : decode cX13_messages 20 = .ok (.iconst 0, 1) := by decide +kernel
theorem dX13_messages_21 : decode cX13_messages 21 = .ok (.istore_n 2, 1) := by decide +kernel
theorem dX13_messages_22 : decode cX13_messages 22 = .ok (.iconst 0, 1) := by decide +kernel
theorem dX13_messages_23 : decode cX13_messages 23 = .ok (.istore_n 3, 1) := by decide +kernel
theorem dX13_messages_24 : decode cX13_messages 24 = .ok (.iload_n 3, 1) := by decide +kernel
theorem dX13_messages_25 : decode cX13_messages 25 = .ok (.aload_n 0, 1) := by decide +kernel
theorem dX13_messages_26 : decode cX13_messages 26 = .ok (.getfield 452, 3) := by decide +kernel
theorem dX13_messages_29 : decode cX13_messages 29 = .ok (.if_icmp .ge 126, 3) := by decide +kernel
theorem dX13_messages_32 : decode cX13_messages 32 = .ok (.aload_n 0, 1) := by decide +kernel
theorem dX13_messages_33 : decode cX13_messages 33 = .ok (.getfield 247, 3) := by decide +kernel
theorem dX13_messages_36 : decode cX13_messages 36 = .ok (.iload_n 3, 1) := by decide +kernel
theorem dX13_messages_37 : decode cX13_messages 37 = .ok (.iaload, 1) := by decide +kernel
theorem dX13_messages_38 : decode cX13_messages 38 = .ok (.istore 4, 2) := by decide +kernel
theorem dX13_messages_40 : decode cX13_messages 40 = .ok (.iload_n 3, 1) := by decide +kernel
theorem dX13_messages_41 : decode cX13_messages 41 = .ok (.ifCond .le 19, 3) := by decide +kernel
theorem dX13_messages_44 : decode cX13_messages 44 = .ok (.aload_n 0, 1) := by decide +kernel
theorem dX13_messages_45 : decode cX13_messages 45 = .ok (.getfield 247, 3) := by decide +kernel
theorem dX13_messages_48 : decode cX13_messages 48 = .ok (.iload_n 3, 1) := by decide +kernel
theorem dX13_messages_49 : decode cX13_messages 49 = .ok (.iconst 1, 1) := by decide +kernel
theorem dX13_messages_50 : decode cX13_messages 50 = .ok (.isub, 1) := by decide +kernel
theorem dX13_messages_51 : decode cX13_messages 51 = .ok (.iaload, 1) := by decide +kernel
theorem dX13_messages_52 : decode cX13_messages 52 = .ok (.iload 4, 2) := by decide +kernel
theorem dX13_messages_54 : decode cX13_messages 54 = .ok (.if_icmp .ne 6, 3) := by decide +kernel
theorem dX13_messages_57 : decode cX13_messages 57 = .ok (.goto 92, 3) := by decide +kernel
theorem dX13_messages_60 : decode cX13_messages 60 = .ok (.aload_n 0, 1) := by decide +kernel
theorem dX13_messages_61 : decode cX13_messages 61 = .ok (.iload 4, 2) := by decide +kernel
theorem dX13_messages_63 : decode cX13_messages 63 = .ok (.iconst 1, 1) := by decide +kernel
theorem dX13_messages_64 : decode cX13_messages 64 = .ok (.isub, 1) := by decide +kernel
theorem dX13_messages_65 : decode cX13_messages 65 = .ok (.invokevirtual 503, 3) := by decide +kernel
theorem dX13_messages_68 : decode cX13_messages 68 = .ok (.aload_n 0, 1) := by decide +kernel
theorem dX13_messages_69 : decode cX13_messages 69 = .ok (.iload_n 1, 1) := by decide +kernel
theorem dX13_messages_70 : decode cX13_messages 70 = .ok (.iload 4, 2) := by decide +kernel
theorem dX13_messages_72 : decode cX13_messages 72 = .ok (.invokevirtual 506, 3) := by decide +kernel
theorem dX13_messages_75 : decode cX13_messages 75 = .ok (.istore 5, 2) := by decide +kernel
theorem dX13_messages_77 : decode cX13_messages 77 = .ok (.iload 5, 2) := by decide +kernel
theorem dX13_messages_79 : decode cX13_messages 79 = .ok (.iconst (-1), 1) := by decide +kernel
theorem dX13_messages_80 : decode cX13_messages 80 = .ok (.if_icmp .ne 7, 3) := by decide +kernel
theorem dX13_messages_83 : decode cX13_messages 83 = .ok (.iconst (-1), 1) := by decide +kernel
theorem dX13_messages_84 : decode cX13_messages 84 = .ok (.goto 10, 3) := by decide +kernel
theorem dX13_messages_87 : decode cX13_messages 87 = .ok (.aload_n 0, 1) := by decide +kernel
theorem dX13_messages_88 : decode cX13_messages 88 = .ok (.getfield 268, 3) := by decide +kernel
theorem dX13_messages_91 : decode cX13_messages 91 = .ok (.iload 5, 2) := by decide +kernel
theorem dX13_messages_93 : decode cX13_messages 93 = .ok (.iaload, 1) := by decide +kernel
theorem dX13_messages_94 : decode cX13_messages 94 = .ok (.istore 6, 2) := by decide +kernel
theorem dX13_messages_96 : decode cX13_messages 96 = .ok (.aload_n 0, 1) := by decide +kernel
theorem dX13_messages_97 : decode cX13_messages 97 = .ok (.iload 4, 2) := by decide +kernel
theorem dX13_messages_99 : decode cX13_messages 99 = .ok (.invokevirtual 503, 3) := by decide +kernel
theorem dX13_messages_102 : decode cX13_messages 102 = .ok (.aload_n 0, 1) := by decide +kernel
theorem dX13_messages_103 : decode cX13_messages 103 = .ok (.iload_n 1, 1) := by decide +kernel
theorem dX13_messages_104 : decode cX13_messages 104 = .ok (.iload 4, 2) := by decide +kernel
theorem dX13_messages_106 : decode cX13_messages 106 = .ok (.invokevirtual 506, 3) := by decide +kernel
theorem dX13_messages_109 : decode cX13_messages 109 = .ok (.istore 7, 2) := by decide +kernel
theorem dX13_messages_111 : decode cX13_messages 111 = .ok (.iload_n 2, 1) := by decide +kernel
theorem dX13_messages_112 : decode cX13_messages 112 = .ok (.iload 7, 2) := by decide +kernel
theorem dX13_messages_114 : decode cX13_messages 114 = .ok (.iload 5, 2) := by decide +kernel
theorem dX13_messages_116 : decode cX13_messages 116 = .ok (.if_icmp .ne 26, 3) := by decide +kernel
theorem dX13_messages_119 : decode cX13_messages 119 = .ok (.iload 7, 2) := by decide +kernel
theorem dX13_messages_121 : decode cX13_messages 121 = .ok (.iconst (-1), 1) := by decide +kernel
theorem dX13_messages_122 : decode cX13_messages 122 = .ok (.if_icmp .eq 24, 3) := by decide +kernel
theorem dX13_messages_125 : decode cX13_messages 125 = .ok (.aload_n 0, 1) := by decide +kernel
theorem dX13_messages_126 : decode cX13_messages 126 = .ok (.getfield 268, 3) := by decide +kernel
theorem dX13_messages_129 : decode cX13_messages 129 = .ok (.iload 7, 2) := by decide +kernel
theorem dX13_messages_131 : decode cX13_messages 131 = .ok (.iaload, 1) := by decide +kernel
theorem dX13_messages_132 : decode cX13_messages 132 = .ok (.iload 6, 2) := by decide +kernel
theorem dX13_messages_134 : decode cX13_messages 134 = .ok (.isub, 1) := by decide +kernel
theorem dX13_messages_135 : decode cX13_messages 135 = .ok (.invokestatic 361, 3) := by decide +kernel
theorem dX13_messages_138 : decode cX13_messages 138 = .ok (.iconst 5, 1) := by decide +kernel
theorem dX13_messages_139 : decode cX13_messages 139 = .ok (.if_icmp .lt 7, 3) := by decide +kernel
theorem dX13_messages_142 : decode cX13_messages 142 = .ok (.iconst 1, 1) := by decide +kernel
theorem dX13_messages_143 : decode cX13_messages 143 = .ok (.goto 4, 3) := by decide +kernel
theorem dX13_messages_146 : decode cX13_messages 146 = .ok (.iconst 0, 1) := by decide +kernel
theorem dX13_messages_147 : decode cX13_messages 147 = .ok (.iadd, 1) := by decide +kernel
theorem dX13_messages_148 : decode cX13_messages 148 = .ok (.istore_n 2, 1) := by decide +kernel
theorem dX13_messages_149 : decode cX13_messages 149 = .ok (.iinc 3 1, 3) := by decide +kernel
theorem dX13_messages_152 : decode cX13_messages 152 = .ok (.goto (-128), 3) := by decide +kernel
theorem dX13_messages_155 : decode cX13_messages 155 = .ok (.iload_n 2, 1) := by decide +kernel
theorem dX13_messages_156 : decode cX13_messages 156 = .ok (.ireturn, 1) := by decide +kernel
noncomputable def tX13_messages_83 (j14 : qT (Int32 × qM)) : qT (Int32 × qM) :=
  oInc 3 (1 : Int32) (j14)
noncomputable def wX13_messages_83 (k : Int32 → Int32 → Int32 → qM → Option (Int32 × qM)) : qT (Int32 × qM) := fun lo st m => match lo, st with
  | [some (.ref 98), some (.int a1), some (.int a2), some (.int a3), _, _, _, _], [] => k a1 a2 a3 m
  | _, _ => none
noncomputable def wX13_messages_14 (k : Int32 → Int32 → Int32 → qM → Option (Int32 × qM)) : qT (Int32 × qM) := fun lo st m => match lo, st with
  | [some (.ref 98), some (.int a1), some (.int a2), some (.int a3), _, _, _, _], [] => k a1 a2 a3 m
  | _, _ => none
set_option maxRecDepth 20000 in
theorem sX13_messages_83 {C : qCx} {w : qWp} (h : qOk C w RX13 cX13_messages 8 7 155 155) (hm : qMt C (some .int)) (hx : qNx C) {j14 : qT (Int32 × qM)} (k14 : qSnd C w 8 155 (qQf C w 155 155 jI) qfin 155 24 j14) : qSnd C w 8 155 (qQf C w 155 155 jI) qfin 155 149 (tX13_messages_83 j14) :=
  cInc (pc := 149) h dX13_messages_149 rfl (jGo (pc := 152) h dX13_messages_152 rfl (k14))
set_option maxRecDepth 20000 in
theorem lX13_messages_83 (k14 : Int32 → Int32 → Int32 → qM → Option (Int32 × qM)) (a1 : Int32) (a2 : Int32) (a3 : Int32) (m : qM) : tX13_messages_83 (wX13_messages_14 k14) [some (.ref 98), some (.int a1), some (.int a2), some (.int a3), none, none, none, none] [] m = fX13_messages_83 k14 a1 a2 a3 m := rfl
theorem bX13_messages_83 {C : qCx} {w : qWp} (h : qOk C w RX13 cX13_messages 8 7 155 155) (hm : qMt C (some .int)) (hx : qNx C) {k14 : Int32 → Int32 → Int32 → qM → Option (Int32 × qM)} (h14 : qSnd C w 8 155 (qQf C w 155 155 jI) qfin 155 24 (wX13_messages_14 k14)) : qSnd C w 8 155 (qQf C w 155 155 jI) qfin 155 149 (wX13_messages_83 (fX13_messages_83 k14)) :=
  qSnd_of (fun lo st m x hr0 => by
    unfold wX13_messages_83 at hr0
    split at hr0
    · exact ⟨_, (qsub_e (qsub_e (qsub_e (qsub_e (qsub_n (qsub_n (qsub_n (qsub_n qsub_nil)))))))), (lX13_messages_83 _ _ _ _ _).trans hr0⟩
    · cases hr0) (sX13_messages_83 h hm hx h14)
noncomputable def tX13_messages_81 (j83 : qT (Int32 × qM)) : qT (Int32 × qM) :=
  o2 (· + ·) (oSi 2 (j83))
noncomputable def wX13_messages_81 (k : Int32 → Int32 → Int32 → Int32 → qM → Option (Int32 × qM)) : qT (Int32 × qM) := fun lo st m => match lo, st with
  | [some (.ref 98), some (.int a1), _, some (.int a3), _, _, _, _], [.int s0, .int s1] => k a1 a3 s0 s1 m
  | _, _ => none
set_option maxRecDepth 20000 in
theorem sX13_messages_81 {C : qCx} {w : qWp} (h : qOk C w RX13 cX13_messages 8 7 155 155) (hm : qMt C (some .int)) (hx : qNx C) {j83 : qT (Int32 × qM)} (k83 : qSnd C w 8 155 (qQf C w 155 155 jI) qfin 155 149 j83) : qSnd C w 8 155 (qQf C w 155 155 jI) qfin 155 147 (tX13_messages_81 j83) :=
  aAdd (pc := 147) h dX13_messages_147 (cSi (pc := 148) h dX13_messages_148 rfl (k83))
set_option maxRecDepth 20000 in
theorem lX13_messages_81 (k14 : Int32 → Int32 → Int32 → qM → Option (Int32 × qM)) (a1 : Int32) (a3 : Int32) (s0 : Int32) (s1 : Int32) (m : qM) : tX13_messages_81 (wX13_messages_83 (fX13_messages_83 k14)) [some (.ref 98), some (.int a1), none, some (.int a3), none, none, none, none] [(.int s0), (.int s1)] m = fX13_messages_81 k14 a1 a3 s0 s1 m := rfl
theorem bX13_messages_81 {C : qCx} {w : qWp} (h : qOk C w RX13 cX13_messages 8 7 155 155) (hm : qMt C (some .int)) (hx : qNx C) {k14 : Int32 → Int32 → Int32 → qM → Option (Int32 × qM)} (h14 : qSnd C w 8 155 (qQf C w 155 155 jI) qfin 155 24 (wX13_messages_14 k14)) : qSnd C w 8 155 (qQf C w 155 155 jI) qfin 155 147 (wX13_messages_81 (fX13_messages_81 k14)) :=
  qSnd_of (fun lo st m x hr0 => by
    unfold wX13_messages_81 at hr0
    split at hr0
    · exact ⟨_, (qsub_e (qsub_e (qsub_n (qsub_e (qsub_n (qsub_n (qsub_n (qsub_n qsub_nil)))))))), (lX13_messages_81 _ _ _ _ _ _).trans hr0⟩
    · cases hr0) (sX13_messages_81 h hm hx (bX13_messages_83 h hm hx h14))
noncomputable def tX13_messages_78 (j81 : qT (Int32 × qM)) : qT (Int32 × qM) :=
  oC (.int (1 : Int32)) (j81)
noncomputable def wX13_messages_78 (k : Int32 → Int32 → Int32 → qM → Option (Int32 × qM)) : qT (Int32 × qM) := fun lo st m => match lo, st with
  | [some (.ref 98), some (.int a1), _, some (.int a3), _, _, _, _], [.int s0] => k a1 a3 s0 m
  | _, _ => none
set_option maxRecDepth 20000 in
theorem sX13_messages_78 {C : qCx} {w : qWp} (h : qOk C w RX13 cX13_messages 8 7 155 155) (hm : qMt C (some .int)) (hx : qNx C) {j81 : qT (Int32 × qM)} (k81 : qSnd C w 8 155 (qQf C w 155 155 jI) qfin 155 147 j81) : qSnd C w 8 155 (qQf C w 155 155 jI) qfin 155 142 (tX13_messages_78 j81) :=
  cC (pc := 142) h dX13_messages_142 rfl (jGo (pc := 143) h dX13_messages_143 rfl (k81))
set_option maxRecDepth 20000 in
theorem lX13_messages_78 (k14 : Int32 → Int32 → Int32 → qM → Option (Int32 × qM)) (a1 : Int32) (a3 : Int32) (s0 : Int32) (m : qM) : tX13_messages_78 (wX13_messages_81 (fX13_messages_81 k14)) [some (.ref 98), some (.int a1), none, some (.int a3), none, none, none, none] [(.int s0)] m = fX13_messages_78 k14 a1 a3 s0 m := rfl
theorem bX13_messages_78 {C : qCx} {w : qWp} (h : qOk C w RX13 cX13_messages 8 7 155 155) (hm : qMt C (some .int)) (hx : qNx C) {k14 : Int32 → Int32 → Int32 → qM → Option (Int32 × qM)} (h14 : qSnd C w 8 155 (qQf C w 155 155 jI) qfin 155 24 (wX13_messages_14 k14)) : qSnd C w 8 155 (qQf C w 155 155 jI) qfin 155 142 (wX13_messages_78 (fX13_messages_78 k14)) :=
  qSnd_of (fun lo st m x hr0 => by
    unfold wX13_messages_78 at hr0
    split at hr0
    · exact ⟨_, (qsub_e (qsub_e (qsub_n (qsub_e (qsub_n (qsub_n (qsub_n (qsub_n qsub_nil)))))))), (lX13_messages_78 _ _ _ _ _).trans hr0⟩
    · cases hr0) (sX13_messages_78 h hm hx (bX13_messages_81 h hm hx h14))
noncomputable def tX13_messages_80 (j81 : qT (Int32 × qM)) : qT (Int32 × qM) :=
  oC (.int (0 : Int32)) (j81)
noncomputable def wX13_messages_80 (k : Int32 → Int32 → Int32 → qM → Option (Int32 × qM)) : qT (Int32 × qM) := fun lo st m => match lo, st with
  | [some (.ref 98), some (.int a1), _, some (.int a3), _, _, _, _], [.int s0] => k a1 a3 s0 m
  | _, _ => none
set_option maxRecDepth 20000 in
theorem sX13_messages_80 {C : qCx} {w : qWp} (h : qOk C w RX13 cX13_messages 8 7 155 155) (hm : qMt C (some .int)) (hx : qNx C) {j81 : qT (Int32 × qM)} (k81 : qSnd C w 8 155 (qQf C w 155 155 jI) qfin 155 147 j81) : qSnd C w 8 155 (qQf C w 155 155 jI) qfin 155 146 (tX13_messages_80 j81) :=
  cC (pc := 146) h dX13_messages_146 rfl (k81)
set_option maxRecDepth 20000 in
theorem lX13_messages_80 (k14 : Int32 → Int32 → Int32 → qM → Option (Int32 × qM)) (a1 : Int32) (a3 : Int32) (s0 : Int32) (m : qM) : tX13_messages_80 (wX13_messages_81 (fX13_messages_81 k14)) [some (.ref 98), some (.int a1), none, some (.int a3), none, none, none, none] [(.int s0)] m = fX13_messages_80 k14 a1 a3 s0 m := rfl
theorem bX13_messages_80 {C : qCx} {w : qWp} (h : qOk C w RX13 cX13_messages 8 7 155 155) (hm : qMt C (some .int)) (hx : qNx C) {k14 : Int32 → Int32 → Int32 → qM → Option (Int32 × qM)} (h14 : qSnd C w 8 155 (qQf C w 155 155 jI) qfin 155 24 (wX13_messages_14 k14)) : qSnd C w 8 155 (qQf C w 155 155 jI) qfin 155 146 (wX13_messages_80 (fX13_messages_80 k14)) :=
  qSnd_of (fun lo st m x hr0 => by
    unfold wX13_messages_80 at hr0
    split at hr0
    · exact ⟨_, (qsub_e (qsub_e (qsub_n (qsub_e (qsub_n (qsub_n (qsub_n (qsub_n qsub_nil)))))))), (lX13_messages_80 _ _ _ _ _).trans hr0⟩
    · cases hr0) (sX13_messages_80 h hm hx (bX13_messages_81 h hm hx h14))
noncomputable def tX13_messages_53 (j78 : qT (Int32 × qM)) (j80 : qT (Int32 × qM)) : qT (Int32 × qM) :=
  oSi 6 (oLa 0 (oLi 4 (oCv GX13_goThrough 2 (oLa 0 (oLi 1 (oLi 4 (oCi GX13_nextOf 3 (oSi 7 (oLi 2 (oLi 7 (oLi 5 (oCEq (oLi 7 (oC (.int (-1 : Int32)) (oCEq (j80) (oLa 0 (oGf 98 60 141 (oLi 7 (oAi 141 40 (oLi 6 (o2 (· - ·) (oCi GJ9_abs_0f7a4 1 (oC (.int (5 : Int32)) (oCLt (j80) (j78))))))))))))) (j78)))))))))))))
noncomputable def wX13_messages_53 (k : Int32 → Int32 → Int32 → Int32 → Int32 → Int32 → qM → Option (Int32 × qM)) : qT (Int32 × qM) := fun lo st m => match lo, st with
  | [some (.ref 98), some (.int a1), some (.int a2), some (.int a3), some (.int a4), some (.int a5), _, _], [.int s0] => k a1 a2 a3 a4 a5 s0 m
  | _, _ => none
set_option maxRecDepth 20000 in
theorem sX13_messages_53 {C : qCx} {w : qWp} (h : qOk C w RX13 cX13_messages 8 7 155 155) (hm : qMt C (some .int)) (hx : qNx C) {j78 : qT (Int32 × qM)} {j80 : qT (Int32 × qM)} (k78 : qSnd C w 8 155 (qQf C w 155 155 jI) qfin 155 142 j78) (k80 : qSnd C w 8 155 (qQf C w 155 155 jI) qfin 155 146 j80) : qSnd C w 8 155 (qQf C w 155 155 jI) qfin 155 94 (tX13_messages_53 j78 j80) :=
  cSI (pc := 94) h dX13_messages_94 (cLa (pc := 96) h dX13_messages_96 rfl (cLI (pc := 97) h dX13_messages_97 (kCv (pc := 99) h (kd_X13_503 h dX13_messages_99) spX13_goThrough (by decide) (by decide) (by decide) (by decide) (cLa (pc := 102) h dX13_messages_102 rfl (cLi (pc := 103) h dX13_messages_103 rfl (cLI (pc := 104) h dX13_messages_104 (kCi (pc := 106) h (kd_X13_506 h dX13_messages_106) spX13_nextOf (by decide) (by decide) (by decide) (by decide) (cSI (pc := 109) h dX13_messages_109 (cLi (pc := 111) h dX13_messages_111 rfl (cLI (pc := 112) h dX13_messages_112 (cLI (pc := 114) h dX13_messages_114 (jCNe (pc := 116) h dX13_messages_116 rfl (k78) (cLI (pc := 119) h dX13_messages_119 (cC (pc := 121) h dX13_messages_121 rfl (jCEq (pc := 122) h dX13_messages_122 rfl (k80) (cLa (pc := 125) h dX13_messages_125 rfl (gGf (pc := 126) h dX13_messages_126 ff_X13_268_98 (Nat.le_of_ble_eq_true rfl) (Nat.le_of_ble_eq_true rfl) rfl (cLI (pc := 129) h dX13_messages_129 (rAi (pc := 131) h dX13_messages_131 rfl (Nat.le_of_ble_eq_true rfl) (Nat.le_of_ble_eq_true rfl) (cLI (pc := 132) h dX13_messages_132 (aSub (pc := 134) h dX13_messages_134 (kCi (pc := 135) h (kd_X13_361 h dX13_messages_135) spJ9_abs_0f7a4 (by decide) (by decide) (by decide) (by decide) (cC (pc := 138) h dX13_messages_138 rfl (jCLt (pc := 139) h dX13_messages_139 rfl (k80) (k78)))))))))))))))))))))))))
set_option maxRecDepth 20000 in
theorem lX13_messages_53 (k14 : Int32 → Int32 → Int32 → qM → Option (Int32 × qM)) (a1 : Int32) (a2 : Int32) (a3 : Int32) (a4 : Int32) (a5 : Int32) (s0 : Int32) (m : qM) : tX13_messages_53 (wX13_messages_78 (fX13_messages_78 k14)) (wX13_messages_80 (fX13_messages_80 k14)) [some (.ref 98), some (.int a1), some (.int a2), some (.int a3), some (.int a4), some (.int a5), none, none] [(.int s0)] m = fX13_messages_53 k14 a1 a2 a3 a4 a5 s0 m := rfl
theorem bX13_messages_53 {C : qCx} {w : qWp} (h : qOk C w RX13 cX13_messages 8 7 155 155) (hm : qMt C (some .int)) (hx : qNx C) {k14 : Int32 → Int32 → Int32 → qM → Option (Int32 × qM)} (h14 : qSnd C w 8 155 (qQf C w 155 155 jI) qfin 155 24 (wX13_messages_14 k14)) : qSnd C w 8 155 (qQf C w 155 155 jI) qfin 155 94 (wX13_messages_53 (fX13_messages_53 k14)) :=
  qSnd_of (fun lo st m x hr0 => by
    unfold wX13_messages_53 at hr0
    split at hr0
    · exact ⟨_, (qsub_e (qsub_e (qsub_e (qsub_e (qsub_e (qsub_e (qsub_n (qsub_n qsub_nil)))))))), (lX13_messages_53 _ _ _ _ _ _ _ _).trans hr0⟩
    · cases hr0) (sX13_messages_53 h hm hx (bX13_messages_78 h hm hx h14) (bX13_messages_80 h hm hx h14))
noncomputable def tX13_messages_34 (j53 : qT (Int32 × qM)) : qT (Int32 × qM) :=
  oLa 0 (oLi 4 (oC (.int (1 : Int32)) (o2 (· - ·) (oCv GX13_goThrough 2 (oLa 0 (oLi 1 (oLi 4 (oCi GX13_nextOf 3 (oSi 5 (oLi 5 (oC (.int (-1 : Int32)) (oCEq (oC (.int (-1 : Int32)) (j53)) (oLa 0 (oGf 98 60 141 (oLi 5 (oAi 141 40 (j53)))))))))))))))))
noncomputable def wX13_messages_34 (k : Int32 → Int32 → Int32 → Int32 → qM → Option (Int32 × qM)) : qT (Int32 × qM) := fun lo st m => match lo, st with
  | [some (.ref 98), some (.int a1), some (.int a2), some (.int a3), some (.int a4), _, _, _], [] => k a1 a2 a3 a4 m
  | _, _ => none
set_option maxRecDepth 20000 in
theorem sX13_messages_34 {C : qCx} {w : qWp} (h : qOk C w RX13 cX13_messages 8 7 155 155) (hm : qMt C (some .int)) (hx : qNx C) {j53 : qT (Int32 × qM)} (k53 : qSnd C w 8 155 (qQf C w 155 155 jI) qfin 155 94 j53) : qSnd C w 8 155 (qQf C w 155 155 jI) qfin 155 60 (tX13_messages_34 j53) :=
  cLa (pc := 60) h dX13_messages_60 rfl (cLI (pc := 61) h dX13_messages_61 (cC (pc := 63) h dX13_messages_63 rfl (aSub (pc := 64) h dX13_messages_64 (kCv (pc := 65) h (kd_X13_503 h dX13_messages_65) spX13_goThrough (by decide) (by decide) (by decide) (by decide) (cLa (pc := 68) h dX13_messages_68 rfl (cLi (pc := 69) h dX13_messages_69 rfl (cLI (pc := 70) h dX13_messages_70 (kCi (pc := 72) h (kd_X13_506 h dX13_messages_72) spX13_nextOf (by decide) (by decide) (by decide) (by decide) (cSI (pc := 75) h dX13_messages_75 (cLI (pc := 77) h dX13_messages_77 (cC (pc := 79) h dX13_messages_79 rfl (jCNe (pc := 80) h dX13_messages_80 rfl (cLa (pc := 87) h dX13_messages_87 rfl (gGf (pc := 88) h dX13_messages_88 ff_X13_268_98 (Nat.le_of_ble_eq_true rfl) (Nat.le_of_ble_eq_true rfl) rfl (cLI (pc := 91) h dX13_messages_91 (rAi (pc := 93) h dX13_messages_93 rfl (Nat.le_of_ble_eq_true rfl) (Nat.le_of_ble_eq_true rfl) (k53))))) (cC (pc := 83) h dX13_messages_83 rfl (jGo (pc := 84) h dX13_messages_84 rfl (k53)))))))))))))))
set_option maxRecDepth 20000 in
theorem lX13_messages_34 (k14 : Int32 → Int32 → Int32 → qM → Option (Int32 × qM)) (a1 : Int32) (a2 : Int32) (a3 : Int32) (a4 : Int32) (m : qM) : tX13_messages_34 (wX13_messages_53 (fX13_messages_53 k14)) [some (.ref 98), some (.int a1), some (.int a2), some (.int a3), some (.int a4), none, none, none] [] m = fX13_messages_34 k14 a1 a2 a3 a4 m := rfl
theorem bX13_messages_34 {C : qCx} {w : qWp} (h : qOk C w RX13 cX13_messages 8 7 155 155) (hm : qMt C (some .int)) (hx : qNx C) {k14 : Int32 → Int32 → Int32 → qM → Option (Int32 × qM)} (h14 : qSnd C w 8 155 (qQf C w 155 155 jI) qfin 155 24 (wX13_messages_14 k14)) : qSnd C w 8 155 (qQf C w 155 155 jI) qfin 155 60 (wX13_messages_34 (fX13_messages_34 k14)) :=
  qSnd_of (fun lo st m x hr0 => by
    unfold wX13_messages_34 at hr0
    split at hr0
    · exact ⟨_, (qsub_e (qsub_e (qsub_e (qsub_e (qsub_e (qsub_n (qsub_n (qsub_n qsub_nil)))))))), (lX13_messages_34 _ _ _ _ _ _).trans hr0⟩
    · cases hr0) (sX13_messages_34 h hm hx (bX13_messages_53 h hm hx h14))
noncomputable def tX13_messages_14 (j34 : qT (Int32 × qM)) (j83 : qT (Int32 × qM)) : qT (Int32 × qM) :=
  oLi 3 (oLa 0 (oGi 98 52 (oCGe (oLi 2 (eI)) (oLa 0 (oGf 98 53 134 (oLi 3 (oAi 134 80 (oSi 4 (oLi 3 (oLe (j34) (oLa 0 (oGf 98 53 134 (oLi 3 (oC (.int (1 : Int32)) (o2 (· - ·) (oAi 134 80 (oLi 4 (oCEq (j83) (j34)))))))))))))))))))
set_option maxRecDepth 20000 in
theorem sX13_messages_14 {C : qCx} {w : qWp} (h : qOk C w RX13 cX13_messages 8 7 155 155) (hm : qMt C (some .int)) (hx : qNx C) {j34 : qT (Int32 × qM)} {j83 : qT (Int32 × qM)} (k34 : qSnd C w 8 155 (qQf C w 155 155 jI) qfin 155 60 j34) (k83 : qSnd C w 8 155 (qQf C w 155 155 jI) qfin 155 149 j83) : qSnd C w 8 155 (qQf C w 155 155 jI) qfin 155 24 (tX13_messages_14 j34 j83) :=
  cLi (pc := 24) h dX13_messages_24 rfl (cLa (pc := 25) h dX13_messages_25 rfl (gGi (pc := 26) h dX13_messages_26 ff_X13_452_98 (Nat.le_of_ble_eq_true rfl) (Nat.le_of_ble_eq_true rfl) (jCGe (pc := 29) h dX13_messages_29 rfl (cLi (pc := 155) h dX13_messages_155 rfl (zI (pc := 156) h hm (Nat.le_refl _) dX13_messages_156)) (cLa (pc := 32) h dX13_messages_32 rfl (gGf (pc := 33) h dX13_messages_33 ff_X13_247_98 (Nat.le_of_ble_eq_true rfl) (Nat.le_of_ble_eq_true rfl) rfl (cLi (pc := 36) h dX13_messages_36 rfl (rAi (pc := 37) h dX13_messages_37 rfl (Nat.le_of_ble_eq_true rfl) (Nat.le_of_ble_eq_true rfl) (cSI (pc := 38) h dX13_messages_38 (cLi (pc := 40) h dX13_messages_40 rfl (jLe (pc := 41) h dX13_messages_41 rfl (k34) (cLa (pc := 44) h dX13_messages_44 rfl (gGf (pc := 45) h dX13_messages_45 ff_X13_247_98 (Nat.le_of_ble_eq_true rfl) (Nat.le_of_ble_eq_true rfl) rfl (cLi (pc := 48) h dX13_messages_48 rfl (cC (pc := 49) h dX13_messages_49 rfl (aSub (pc := 50) h dX13_messages_50 (rAi (pc := 51) h dX13_messages_51 rfl (Nat.le_of_ble_eq_true rfl) (Nat.le_of_ble_eq_true rfl) (cLI (pc := 52) h dX13_messages_52 (jCNe (pc := 54) h dX13_messages_54 rfl (k34) (jGo (pc := 57) h dX13_messages_57 rfl (k83))))))))))))))))))))
set_option maxRecDepth 20000 in
theorem lX13_messages_14 (n : Nat) (a1 : Int32) (a2 : Int32) (a3 : Int32) (m : qM) : tX13_messages_14 (wX13_messages_34 (fX13_messages_34 (fX13_messages_14 n))) (wX13_messages_83 (fX13_messages_83 (fX13_messages_14 n))) [some (.ref 98), some (.int a1), some (.int a2), some (.int a3), none, none, none, none] [] m = fX13_messages_14 (n + 1) a1 a2 a3 m := rfl
theorem bX13_messages_14 {C : qCx} {w : qWp} (h : qOk C w RX13 cX13_messages 8 7 155 155) (hm : qMt C (some .int)) (hx : qNx C) : ∀ n : Nat, qSnd C w 8 155 (qQf C w 155 155 jI) qfin 155 24 (wX13_messages_14 (fX13_messages_14 n))
  | 0 => qSnd_of0 (fun lo st m x hr0 => by
    unfold wX13_messages_14 at hr0
    split at hr0
    · cases hr0
    · cases hr0)
  | n + 1 => by
    have ih := bX13_messages_14 h hm hx n
    exact qSnd_of (fun lo st m x hr0 => by
    unfold wX13_messages_14 at hr0
    split at hr0
    · exact ⟨_, (qsub_e (qsub_e (qsub_e (qsub_e (qsub_n (qsub_n (qsub_n (qsub_n qsub_nil)))))))), (lX13_messages_14 n _ _ _ _).trans hr0⟩
    · cases hr0) (sX13_messages_14 h hm hx (bX13_messages_34 h hm hx ih) (bX13_messages_83 h hm hx ih))
noncomputable def tX13_messages_0 (j14 : qT (Int32 × qM)) : qT (Int32 × qM) :=
  oLi 1 (oCi GX13_isFamily 1 (oEq (oC (.int (-2 : Int32)) (eI)) (oLa 0 (oGi 98 33 (oEq (oC (.int (-4 : Int32)) (eI)) (oC (.int (0 : Int32)) (oSi 2 (oC (.int (0 : Int32)) (oSi 3 (j14))))))))))
set_option maxRecDepth 20000 in
theorem sX13_messages_0 {C : qCx} {w : qWp} (h : qOk C w RX13 cX13_messages 8 7 155 155) (hm : qMt C (some .int)) (hx : qNx C) {j14 : qT (Int32 × qM)} (k14 : qSnd C w 8 155 (qQf C w 155 155 jI) qfin 155 24 j14) : qSnd C w 8 155 (qQf C w 155 155 jI) qfin 155 0 (tX13_messages_0 j14) :=
  cLi (pc := 0) h dX13_messages_0 rfl (kCi (pc := 1) h (kd_X13_358 h dX13_messages_1) spX13_isFamily (by decide) (by decide) (by decide) (by decide) (jNe (pc := 4) h dX13_messages_4 rfl (cLa (pc := 10) h dX13_messages_10 rfl (gGz (pc := 11) h dX13_messages_11 ff_X13_316_98 (Nat.le_of_ble_eq_true rfl) (Nat.le_of_ble_eq_true rfl) (jNe (pc := 14) h dX13_messages_14 rfl (cC (pc := 20) h dX13_messages_20 rfl (cSi (pc := 21) h dX13_messages_21 rfl (cC (pc := 22) h dX13_messages_22 rfl (cSi (pc := 23) h dX13_messages_23 rfl (k14))))) (cB (pc := 17) h dX13_messages_17 rfl (zI (pc := 19) h hm (Nat.le_refl _) dX13_messages_19))))) (cB (pc := 7) h dX13_messages_7 rfl (zI (pc := 9) h hm (Nat.le_refl _) dX13_messages_9))))
set_option maxRecDepth 20000 in
theorem lX13_messages_0 (a1 : Int32) (m : qM) : tX13_messages_0 (wX13_messages_14 (fX13_messages_14 FU)) [some (.ref 98), some (.int a1), none, none, none, none, none, none] [] m = fX13_messages_0 a1 m := rfl
noncomputable def GX13_messages : qG Int32 := fun av m => match av with
  | [.ref 98, .int a1] => fX13_messages a1 m
  | _ => none
theorem spX13_messages : qSpI yX13_messages (.code yX13_messages cX13_messages 8 (some .int)) 7 qfin 155 155 1 GX13_messages := by
  intro av m x m' hG
  unfold GX13_messages at hG
  split at hG
  · rename_i a1
    rw [fX13_messages_d] at hG
    exact ⟨qmeet (J := jI) (r := (x, m')) (av := [.ref 98, .int a1]) (by decide +kernel) (Nat.le_of_ble_eq_true rfl) (fun C w h hm hx hn => sX13_messages_0 h hm hx (bX13_messages_14 h hm hx FU)) ((lX13_messages_0 _ _).trans hG) (Nat.le_of_ble_eq_true rfl), Or.inl ⟨98, _, 13, _, _, rfl, by decide, rfl, qCk_13, rfl⟩⟩
  · cases hG
theorem mf_X13_238 : Jvm.Cond.fieldLink RX13 238 (qTb 13 42).1 (qTb 13 42).2.1 (qTb 13 42).2.2.1 ∈ qTw := qm7 (List.mem_of_getElem? (i := 20) (by decide +kernel)) (by decide +kernel)
theorem ff_X13_238_98 : qFd RX13 238 98 13 42 3 := ⟨mf_X13_238, rfl, by decide, rfl⟩
theorem dX13_mend_0 : decode cX13_mend 0 = .ok (.aload_n 0, 1) := by decide +kernel
theorem dX13_mend_1 : decode cX13_mend 1 = .ok (.iload_n 1, 1) := by decide +kernel
theorem dX13_mend_2 : decode cX13_mend 2 = .ok (.invokevirtual 449, 3) := by decide +kernel
theorem dX13_mend_5 : decode cX13_mend 5 = .ok (.ifCond .ne 6, 3) := by decide +kernel
theorem dX13_mend_8 : decode cX13_mend 8 = .ok (.bipush (-2), 2) := by decide +kernel
theorem dX13_mend_10 : decode cX13_mend 10 = .ok (.ireturn, 1) := by decide +kernel
theorem dX13_mend_11 : decode cX13_mend 11 = .ok (.aload_n 0, 1) := by decide +kernel
theorem dX13_mend_12 : decode cX13_mend 12 = .ok (.getfield 316, 3) := by decide +kernel
theorem dX13_mend_15 : decode cX13_mend 15 = .ok (.ifCond .ne 6, 3) := by decide +kernel
theorem dX13_mend_18 : decode cX13_mend 18 = .ok (.bipush (-4), 2) := by decide +kernel
theorem dX13_mend_20 : decode cX13_mend 20 = .ok (.ireturn, 1) := by decide +kernel
theorem dX13_mend_21 : decode cX13_mend 21 = .ok (.aload_n 0, 1) := by decide +kernel
theorem dX13_mend_22 : decode cX13_mend 22 = .ok (.iload_n 1, 1) := by decide +kernel
theorem dX13_mend_23 : decode cX13_mend 23 = .ok (.invokevirtual 503, 3) := by decide +kernel
theorem dX13_mend_26 : decode cX13_mend 26 = .ok (.iconst 0, 1) := by decide +kernel
theorem dX13_mend_27 : decode cX13_mend 27 = .ok (.istore_n 2, 1) := by decide +kernel
theorem dX13_mend_28 : decode cX13_mend 28 = .ok (.iconst 0, 1) := by decide +kernel
theorem dX13_mend_29 : decode cX13_mend 29 = .ok (.istore_n 3, 1) := by decide +kernel
theorem dX13_mend_30 : decode cX13_mend 30 = .ok (.iload_n 3, 1) := by decide +kernel
theorem dX13_mend_31 : decode cX13_mend 31 = .ok (.aload_n 0, 1) := by decide +kernel
theorem dX13_mend_32 : decode cX13_mend 32 = .ok (.getfield 313, 3) := by decide +kernel
theorem dX13_mend_35 : decode cX13_mend 35 = .ok (.if_icmp .ge 26, 3) := by decide +kernel
theorem dX13_mend_38 : decode cX13_mend 38 = .ok (.iload_n 2, 1) := by decide +kernel
theorem dX13_mend_39 : decode cX13_mend 39 = .ok (.aload_n 0, 1) := by decide +kernel
theorem dX13_mend_40 : decode cX13_mend 40 = .ok (.getfield 292, 3) := by decide +kernel
theorem dX13_mend_43 : decode cX13_mend 43 = .ok (.iload_n 3, 1) := by decide +kernel
theorem dX13_mend_44 : decode cX13_mend 44 = .ok (.baload, 1) := by decide +kernel
theorem dX13_mend_45 : decode cX13_mend 45 = .ok (.ifCond .eq 7, 3) := by decide +kernel
theorem dX13_mend_48 : decode cX13_mend 48 = .ok (.iconst 1, 1) := by decide +kernel
theorem dX13_mend_49 : decode cX13_mend 49 = .ok (.goto 4, 3) := by decide +kernel
theorem dX13_mend_52 : decode cX13_mend 52 = .ok (.iconst 0, 1) := by decide +kernel
theorem dX13_mend_53 : decode cX13_mend 53 = .ok (.iadd, 1) := by decide +kernel
theorem dX13_mend_54 : decode cX13_mend 54 = .ok (.istore_n 2, 1) := by decide +kernel
theorem dX13_mend_55 : decode cX13_mend 55 = .ok (.iinc 3 1, 3) := by decide +kernel
theorem dX13_mend_58 : decode cX13_mend 58 = .ok (.goto (-28), 3) := by decide +kernel
theorem dX13_mend_61 : decode cX13_mend 61 = .ok (.iload_n 2, 1) := by decide +kernel
theorem dX13_mend_62 : decode cX13_mend 62 = .ok (.iconst 4, 1) := by decide +kernel
theorem dX13_mend_63 : decode cX13_mend 63 = .ok (.if_icmp .le 6, 3) := by decide +kernel
theorem dX13_mend_66 : decode cX13_mend 66 = .ok (.bipush (-3), 2) := by decide +kernel
theorem dX13_mend_68 : decode cX13_mend 68 = .ok (.ireturn, 1) := by decide +kernel
theorem dX13_mend_69 : decode cX13_mend 69 = .ok (.aload_n 0, 1) := by decide +kernel
theorem dX13_mend_70 : decode cX13_mend 70 = .ok (.iconst 0, 1) := by decide +kernel
theorem dX13_mend_71 : decode cX13_mend 71 = .ok (.putfield 394, 3) := by decide +kernel
theorem dX13_mend_74 : decode cX13_mend 74 = .ok (.iconst 0, 1) := by decide +kernel
theorem dX13_mend_75 : decode cX13_mend 75 = .ok (.istore_n 3, 1) := by decide +kernel
theorem dX13_mend_76 : decode cX13_mend 76 = .ok (.iload_n 3, 1) := by decide +kernel
theorem dX13_mend_77 : decode cX13_mend 77 = .ok (.aload_n 0, 1) := by decide +kernel
theorem dX13_mend_78 : decode cX13_mend 78 = .ok (.getfield 313, 3) := by decide +kernel
theorem dX13_mend_81 : decode cX13_mend 81 = .ok (.if_icmp .ge 56, 3) := by decide +kernel
theorem dX13_mend_84 : decode cX13_mend 84 = .ok (.aload_n 0, 1) := by decide +kernel
theorem dX13_mend_85 : decode cX13_mend 85 = .ok (.getfield 292, 3) := by decide +kernel
theorem dX13_mend_88 : decode cX13_mend 88 = .ok (.iload_n 3, 1) := by decide +kernel
theorem dX13_mend_89 : decode cX13_mend 89 = .ok (.baload, 1) := by decide +kernel
theorem dX13_mend_90 : decode cX13_mend 90 = .ok (.ifCond .ne 6, 3) := by decide +kernel
theorem dX13_mend_93 : decode cX13_mend 93 = .ok (.goto 38, 3) := by decide +kernel
theorem dX13_mend_96 : decode cX13_mend 96 = .ok (.aload_n 0, 1) := by decide +kernel
theorem dX13_mend_97 : decode cX13_mend 97 = .ok (.getfield 232, 3) := by decide +kernel
theorem dX13_mend_100 : decode cX13_mend 100 = .ok (.aload_n 0, 1) := by decide +kernel
theorem dX13_mend_101 : decode cX13_mend 101 = .ok (.getfield 394, 3) := by decide +kernel
theorem dX13_mend_104 : decode cX13_mend 104 = .ok (.iload_n 3, 1) := by decide +kernel
theorem dX13_mend_105 : decode cX13_mend 105 = .ok (.iastore, 1) := by decide +kernel
theorem dX13_mend_106 : decode cX13_mend 106 = .ok (.aload_n 0, 1) := by decide +kernel
theorem dX13_mend_107 : decode cX13_mend 107 = .ok (.getfield 238, 3) := by decide +kernel
theorem dX13_mend_110 : decode cX13_mend 110 = .ok (.aload_n 0, 1) := by decide +kernel
theorem dX13_mend_111 : decode cX13_mend 111 = .ok (.getfield 394, 3) := by decide +kernel
theorem dX13_mend_114 : decode cX13_mend 114 = .ok (.aload_n 0, 1) := by decide +kernel
theorem dX13_mend_115 : decode cX13_mend 115 = .ok (.getfield 221, 3) := by decide +kernel
theorem dX13_mend_118 : decode cX13_mend 118 = .ok (.iload_n 3, 1) := by decide +kernel
theorem dX13_mend_119 : decode cX13_mend 119 = .ok (.iaload, 1) := by decide +kernel
theorem dX13_mend_120 : decode cX13_mend 120 = .ok (.iastore, 1) := by decide +kernel
theorem dX13_mend_121 : decode cX13_mend 121 = .ok (.aload_n 0, 1) := by decide +kernel
theorem dX13_mend_122 : decode cX13_mend 122 = .ok (.dup, 1) := by decide +kernel
theorem dX13_mend_123 : decode cX13_mend 123 = .ok (.getfield 394, 3) := by decide +kernel
theorem dX13_mend_126 : decode cX13_mend 126 = .ok (.iconst 1, 1) := by decide +kernel
theorem dX13_mend_127 : decode cX13_mend 127 = .ok (.iadd, 1) := by decide +kernel
theorem dX13_mend_128 : decode cX13_mend 128 = .ok (.putfield 394, 3) := by decide +kernel
theorem dX13_mend_131 : decode cX13_mend 131 = .ok (.iinc 3 1, 3) := by decide +kernel
theorem dX13_mend_134 : decode cX13_mend 134 = .ok (.goto (-58), 3) := by decide +kernel
theorem dX13_mend_137 : decode cX13_mend 137 = .ok (.iconst 0, 1) := by decide +kernel
theorem dX13_mend_138 : decode cX13_mend 138 = .ok (.istore_n 3, 1) := by decide +kernel
theorem dX13_mend_139 : decode cX13_mend 139 = .ok (.iload_n 3, 1) := by decide +kernel
theorem dX13_mend_140 : decode cX13_mend 140 = .ok (.aload_n 0, 1) := by decide +kernel
theorem dX13_mend_141 : decode cX13_mend 141 = .ok (.getfield 394, 3) := by decide +kernel
theorem dX13_mend_144 : decode cX13_mend 144 = .ok (.if_icmp .ge 21, 3) := by decide +kernel
theorem dX13_mend_147 : decode cX13_mend 147 = .ok (.aload_n 0, 1) := by decide +kernel
theorem dX13_mend_148 : decode cX13_mend 148 = .ok (.getfield 221, 3) := by decide +kernel
theorem dX13_mend_151 : decode cX13_mend 151 = .ok (.aload_n 0, 1) := by decide +kernel
theorem dX13_mend_152 : decode cX13_mend 152 = .ok (.getfield 232, 3) := by decide +kernel
theorem dX13_mend_155 : decode cX13_mend 155 = .ok (.iload_n 3, 1) := by decide +kernel
theorem dX13_mend_156 : decode cX13_mend 156 = .ok (.iaload, 1) := by decide +kernel
theorem dX13_mend_157 : decode cX13_mend 157 = .ok (.iconst (-1), 1) := by decide +kernel
theorem dX13_mend_158 : decode cX13_mend 158 = .ok (.iastore, 1) := by decide +kernel
theorem dX13_mend_159 : decode cX13_mend 159 = .ok (.iinc 3 1, 3) := by decide +kernel
theorem dX13_mend_162 : decode cX13_mend 162 = .ok (.goto (-23), 3) := by decide +kernel
theorem dX13_mend_165 : decode cX13_mend 165 = .ok (.aload_n 0, 1) := by decide +kernel
theorem dX13_mend_166 : decode cX13_mend 166 = .ok (.bipush 20, 2) := by decide +kernel
theorem dX13_mend_168 : decode cX13_mend 168 = .ok (.iload_n 1, 1) := by decide +kernel
theorem dX13_mend_169 : decode cX13_mend 169 = .ok (.aload_n 0, 1) := by decide +kernel
theorem dX13_mend_170 : decode cX13_mend 170 = .ok (.getfield 174, 3) := by decide +kernel
theorem dX13_mend_173 : decode cX13_mend 173 = .ok (.iconst 0, 1) := by decide +kernel
theorem dX13_mend_174 : decode cX13_mend 174 = .ok (.iaload, 1) := by decide +kernel
theorem dX13_mend_175 : decode cX13_mend 175 = .ok (.iadd, 1) := by decide +kernel
theorem dX13_mend_176 : decode cX13_mend 176 = .ok (.iconst 1, 1) := by decide +kernel
theorem dX13_mend_177 : decode cX13_mend 177 = .ok (.isub, 1) := by decide +kernel
theorem dX13_mend_178 : decode cX13_mend 178 = .ok (.aload_n 0, 1) := by decide +kernel
theorem dX13_mend_179 : decode cX13_mend 179 = .ok (.getfield 174, 3) := by decide +kernel
theorem dX13_mend_182 : decode cX13_mend 182 = .ok (.iconst 0, 1) := by decide +kernel
theorem dX13_mend_183 : decode cX13_mend 183 = .ok (.iaload, 1) := by decide +kernel
theorem dX13_mend_184 : decode cX13_mend 184 = .ok (.idiv, 1) := by decide +kernel
theorem dX13_mend_185 : decode cX13_mend 185 = .ok (.invokestatic 382, 3) := by decide +kernel
theorem dX13_mend_188 : decode cX13_mend 188 = .ok (.invokevirtual 419, 3) := by decide +kernel
theorem dX13_mend_191 : decode cX13_mend 191 = .ok (.istore_n 3, 1) := by decide +kernel
theorem dX13_mend_192 : decode cX13_mend 192 = .ok (.iconst 0, 1) := by decide +kernel
theorem dX13_mend_193 : decode cX13_mend 193 = .ok (.istore 4, 2) := by decide +kernel
theorem dX13_mend_195 : decode cX13_mend 195 = .ok (.iconst 0, 1) := by decide +kernel
theorem dX13_mend_196 : decode cX13_mend 196 = .ok (.istore 5, 2) := by decide +kernel
theorem dX13_mend_198 : decode cX13_mend 198 = .ok (.iload 5, 2) := by decide +kernel
theorem dX13_mend_200 : decode cX13_mend 200 = .ok (.aload_n 0, 1) := by decide +kernel
theorem dX13_mend_201 : decode cX13_mend 201 = .ok (.getfield 394, 3) := by decide +kernel
theorem dX13_mend_204 : decode cX13_mend 204 = .ok (.if_icmp .ge 41, 3) := by decide +kernel
theorem dX13_mend_207 : decode cX13_mend 207 = .ok (.iload 4, 2) := by decide +kernel
theorem dX13_mend_209 : decode cX13_mend 209 = .ok (.aload_n 0, 1) := by decide +kernel
theorem dX13_mend_210 : decode cX13_mend 210 = .ok (.getfield 221, 3) := by decide +kernel
theorem dX13_mend_213 : decode cX13_mend 213 = .ok (.aload_n 0, 1) := by decide +kernel
theorem dX13_mend_214 : decode cX13_mend 214 = .ok (.getfield 232, 3) := by decide +kernel
theorem dX13_mend_217 : decode cX13_mend 217 = .ok (.iload 5, 2) := by decide +kernel
theorem dX13_mend_219 : decode cX13_mend 219 = .ok (.iaload, 1) := by decide +kernel
theorem dX13_mend_220 : decode cX13_mend 220 = .ok (.iaload, 1) := by decide +kernel
theorem dX13_mend_221 : decode cX13_mend 221 = .ok (.aload_n 0, 1) := by decide +kernel
theorem dX13_mend_222 : decode cX13_mend 222 = .ok (.getfield 238, 3) := by decide +kernel
theorem dX13_mend_225 : decode cX13_mend 225 = .ok (.iload 5, 2) := by decide +kernel
theorem dX13_mend_227 : decode cX13_mend 227 = .ok (.iaload, 1) := by decide +kernel
theorem dX13_mend_228 : decode cX13_mend 228 = .ok (.if_icmp .eq 7, 3) := by decide +kernel
theorem dX13_mend_231 : decode cX13_mend 231 = .ok (.iconst 1, 1) := by decide +kernel
theorem dX13_mend_232 : decode cX13_mend 232 = .ok (.goto 4, 3) := by decide +kernel
theorem dX13_mend_235 : decode cX13_mend 235 = .ok (.iconst 0, 1) := by decide +kernel
theorem dX13_mend_236 : decode cX13_mend 236 = .ok (.iadd, 1) := by decide +kernel
theorem dX13_mend_237 : decode cX13_mend 237 = .ok (.istore 4, 2) := by decide +kernel
theorem dX13_mend_239 : decode cX13_mend 239 = .ok (.iinc 5 1, 3) := by decide +kernel
theorem dX13_mend_242 : decode cX13_mend 242 = .ok (.goto (-44), 3) := by decide +kernel
theorem dX13_mend_245 : decode cX13_mend 245 = .ok (.iload 4, 2) := by decide +kernel
theorem dX13_mend_247 : decode cX13_mend 247 = .ok (.ireturn, 1) := by decide +kernel
noncomputable def tX13_mend_31 (j18 : qT (Int32 × qM)) : qT (Int32 × qM) :=
  o2 (· + ·) (oSi 2 (oInc 3 (1 : Int32) (j18)))
noncomputable def wX13_mend_31 (k : Int32 → Int32 → Int32 → Int32 → qM → Option (Int32 × qM)) : qT (Int32 × qM) := fun lo st m => match lo, st with
  | [some (.ref 98), some (.int a1), _, some (.int a3), _, _], [.int s0, .int s1] => k a1 a3 s0 s1 m
  | _, _ => none
noncomputable def wX13_mend_18 (k : Int32 → Int32 → Int32 → qM → Option (Int32 × qM)) : qT (Int32 × qM) := fun lo st m => match lo, st with
  | [some (.ref 98), some (.int a1), some (.int a2), some (.int a3), _, _], [] => k a1 a2 a3 m
  | _, _ => none
set_option maxRecDepth 20000 in
theorem sX13_mend_31 {C : qCx} {w : qWp} (h : qOk C w RX13 cX13_mend 6 14 155 155) (hm : qMt C (some .int)) (hx : qNx C) {j18 : qT (Int32 × qM)} (k18 : qSnd C w 6 155 (qQf C w 155 155 jI) qfin 155 30 j18) : qSnd C w 6 155 (qQf C w 155 155 jI) qfin 155 53 (tX13_mend_31 j18) :=
  aAdd (pc := 53) h dX13_mend_53 (cSi (pc := 54) h dX13_mend_54 rfl (cInc (pc := 55) h dX13_mend_55 rfl (jGo (pc := 58) h dX13_mend_58 rfl (k18))))
set_option maxRecDepth 20000 in
theorem lX13_mend_31 (k18 : Int32 → Int32 → Int32 → qM → Option (Int32 × qM)) (a1 : Int32) (a3 : Int32) (s0 : Int32) (s1 : Int32) (m : qM) : tX13_mend_31 (wX13_mend_18 k18) [some (.ref 98), some (.int a1), none, some (.int a3), none, none] [(.int s0), (.int s1)] m = fX13_mend_31 k18 a1 a3 s0 s1 m := rfl
theorem bX13_mend_31 {C : qCx} {w : qWp} (h : qOk C w RX13 cX13_mend 6 14 155 155) (hm : qMt C (some .int)) (hx : qNx C) {k18 : Int32 → Int32 → Int32 → qM → Option (Int32 × qM)} (h18 : qSnd C w 6 155 (qQf C w 155 155 jI) qfin 155 30 (wX13_mend_18 k18)) : qSnd C w 6 155 (qQf C w 155 155 jI) qfin 155 53 (wX13_mend_31 (fX13_mend_31 k18)) :=
  qSnd_of (fun lo st m x hr0 => by
    unfold wX13_mend_31 at hr0
    split at hr0
    · exact ⟨_, (qsub_e (qsub_e (qsub_n (qsub_e (qsub_n (qsub_n qsub_nil)))))), (lX13_mend_31 _ _ _ _ _ _).trans hr0⟩
    · cases hr0) (sX13_mend_31 h hm hx h18)
noncomputable def tX13_mend_18 (j45 : qT (Int32 × qM)) (j31 : qT (Int32 × qM)) : qT (Int32 × qM) :=
  oLi 3 (oLa 0 (oGi 98 32 (oCGe (oLi 2 (oC (.int (4 : Int32)) (oCLe (oLa 0 (oC (.int (0 : Int32)) (oPi 98 43 (oC (.int (0 : Int32)) (oSi 3 (j45)))))) (oC (.int (-3 : Int32)) (eI))))) (oLi 2 (oLa 0 (oGf 98 68 149 (oLi 3 (oAi 149 40 (oEq (oC (.int (0 : Int32)) (j31)) (oC (.int (1 : Int32)) (j31)))))))))))
noncomputable def wX13_mend_45 (k : Int32 → Int32 → qM → Option (Int32 × qM)) : qT (Int32 × qM) := fun lo st m => match lo, st with
  | [some (.ref 98), some (.int a1), _, some (.int a3), _, _], [] => k a1 a3 m
  | _, _ => none
set_option maxRecDepth 20000 in
theorem sX13_mend_18 {C : qCx} {w : qWp} (h : qOk C w RX13 cX13_mend 6 14 155 155) (hm : qMt C (some .int)) (hx : qNx C) {j45 : qT (Int32 × qM)} {j31 : qT (Int32 × qM)} (k45 : qSnd C w 6 155 (qQf C w 155 155 jI) qfin 155 76 j45) (k31 : qSnd C w 6 155 (qQf C w 155 155 jI) qfin 155 53 j31) : qSnd C w 6 155 (qQf C w 155 155 jI) qfin 155 30 (tX13_mend_18 j45 j31) :=
  cLi (pc := 30) h dX13_mend_30 rfl (cLa (pc := 31) h dX13_mend_31 rfl (gGi (pc := 32) h dX13_mend_32 ff_X13_313_98 (Nat.le_of_ble_eq_true rfl) (Nat.le_of_ble_eq_true rfl) (jCGe (pc := 35) h dX13_mend_35 rfl (cLi (pc := 61) h dX13_mend_61 rfl (cC (pc := 62) h dX13_mend_62 rfl (jCLe (pc := 63) h dX13_mend_63 rfl (cLa (pc := 69) h dX13_mend_69 rfl (cC (pc := 70) h dX13_mend_70 rfl (gPi (pc := 71) h dX13_mend_71 ff_X13_394_98 (Or.inl rfl) (Nat.le_of_ble_eq_true rfl) (Nat.le_of_ble_eq_true rfl) (cC (pc := 74) h dX13_mend_74 rfl (cSi (pc := 75) h dX13_mend_75 rfl (k45)))))) (cB (pc := 66) h dX13_mend_66 rfl (zI (pc := 68) h hm (Nat.le_refl _) dX13_mend_68))))) (cLi (pc := 38) h dX13_mend_38 rfl (cLa (pc := 39) h dX13_mend_39 rfl (gGf (pc := 40) h dX13_mend_40 ff_X13_292_98 (Nat.le_of_ble_eq_true rfl) (Nat.le_of_ble_eq_true rfl) rfl (cLi (pc := 43) h dX13_mend_43 rfl (rAz (pc := 44) h dX13_mend_44 rfl (Nat.le_of_ble_eq_true rfl) (Nat.le_of_ble_eq_true rfl) (jEq (pc := 45) h dX13_mend_45 rfl (cC (pc := 52) h dX13_mend_52 rfl (k31)) (cC (pc := 48) h dX13_mend_48 rfl (jGo (pc := 49) h dX13_mend_49 rfl (k31))))))))))))
set_option maxRecDepth 20000 in
theorem lX13_mend_18 (k45 : Int32 → Int32 → qM → Option (Int32 × qM)) (n : Nat) (a1 : Int32) (a2 : Int32) (a3 : Int32) (m : qM) : tX13_mend_18 (wX13_mend_45 k45) (wX13_mend_31 (fX13_mend_31 (fX13_mend_18 k45 n))) [some (.ref 98), some (.int a1), some (.int a2), some (.int a3), none, none] [] m = fX13_mend_18 k45 (n + 1) a1 a2 a3 m := rfl
theorem bX13_mend_18 {C : qCx} {w : qWp} (h : qOk C w RX13 cX13_mend 6 14 155 155) (hm : qMt C (some .int)) (hx : qNx C) {k45 : Int32 → Int32 → qM → Option (Int32 × qM)} (h45 : qSnd C w 6 155 (qQf C w 155 155 jI) qfin 155 76 (wX13_mend_45 k45)) : ∀ n : Nat, qSnd C w 6 155 (qQf C w 155 155 jI) qfin 155 30 (wX13_mend_18 (fX13_mend_18 k45 n))
  | 0 => qSnd_of0 (fun lo st m x hr0 => by
    unfold wX13_mend_18 at hr0
    split at hr0
    · cases hr0
    · cases hr0)
  | n + 1 => by
    have ih := bX13_mend_18 h hm hx h45 n
    exact qSnd_of (fun lo st m x hr0 => by
    unfold wX13_mend_18 at hr0
    split at hr0
    · exact ⟨_, (qsub_e (qsub_e (qsub_e (qsub_e (qsub_n (qsub_n qsub_nil)))))), (lX13_mend_18 _ n _ _ _ _).trans hr0⟩
    · cases hr0) (sX13_mend_18 h hm hx h45 (bX13_mend_31 h hm hx ih))
noncomputable def tX13_mend_76 (j45 : qT (Int32 × qM)) : qT (Int32 × qM) :=
  oInc 3 (1 : Int32) (j45)
noncomputable def wX13_mend_76 (k : Int32 → Int32 → qM → Option (Int32 × qM)) : qT (Int32 × qM) := fun lo st m => match lo, st with
  | [some (.ref 98), some (.int a1), _, some (.int a3), _, _], [] => k a1 a3 m
  | _, _ => none
set_option maxRecDepth 20000 in
theorem sX13_mend_76 {C : qCx} {w : qWp} (h : qOk C w RX13 cX13_mend 6 14 155 155) (hm : qMt C (some .int)) (hx : qNx C) {j45 : qT (Int32 × qM)} (k45 : qSnd C w 6 155 (qQf C w 155 155 jI) qfin 155 76 j45) : qSnd C w 6 155 (qQf C w 155 155 jI) qfin 155 131 (tX13_mend_76 j45) :=
  cInc (pc := 131) h dX13_mend_131 rfl (jGo (pc := 134) h dX13_mend_134 rfl (k45))
set_option maxRecDepth 20000 in
theorem lX13_mend_76 (k45 : Int32 → Int32 → qM → Option (Int32 × qM)) (a1 : Int32) (a3 : Int32) (m : qM) : tX13_mend_76 (wX13_mend_45 k45) [some (.ref 98), some (.int a1), none, some (.int a3), none, none] [] m = fX13_mend_76 k45 a1 a3 m := rfl
theorem bX13_mend_76 {C : qCx} {w : qWp} (h : qOk C w RX13 cX13_mend 6 14 155 155) (hm : qMt C (some .int)) (hx : qNx C) {k45 : Int32 → Int32 → qM → Option (Int32 × qM)} (h45 : qSnd C w 6 155 (qQf C w 155 155 jI) qfin 155 76 (wX13_mend_45 k45)) : qSnd C w 6 155 (qQf C w 155 155 jI) qfin 155 131 (wX13_mend_76 (fX13_mend_76 k45)) :=
  qSnd_of (fun lo st m x hr0 => by
    unfold wX13_mend_76 at hr0
    split at hr0
    · exact ⟨_, (qsub_e (qsub_e (qsub_n (qsub_e (qsub_n (qsub_n qsub_nil)))))), (lX13_mend_76 _ _ _ _).trans hr0⟩
    · cases hr0) (sX13_mend_76 h hm hx h45)
noncomputable def tX13_mend_45 (j80 : qT (Int32 × qM)) (j76 : qT (Int32 × qM)) : qT (Int32 × qM) :=
  oLi 3 (oLa 0 (oGi 98 32 (oCGe (oC (.int (0 : Int32)) (oSi 3 (j80))) (oLa 0 (oGf 98 68 149 (oLi 3 (oAi 149 40 (oEq (j76) (oLa 0 (oGf 98 40 129 (oLa 0 (oGi 98 43 (oLi 3 (oWi 129 4 (oLa 0 (oGf 98 42 131 (oLa 0 (oGi 98 43 (oLa 0 (oGf 98 36 125 (oLi 3 (oAi 125 40 (oWi 131 4 (oLa 0 (oDup (oGi 98 43 (oC (.int (1 : Int32)) (o2 (· + ·) (oPi 98 43 (j76))))))))))))))))))))))))))))))
noncomputable def wX13_mend_80 (k : Int32 → Int32 → qM → Option (Int32 × qM)) : qT (Int32 × qM) := fun lo st m => match lo, st with
  | [some (.ref 98), some (.int a1), _, some (.int a3), _, _], [] => k a1 a3 m
  | _, _ => none
set_option maxRecDepth 20000 in
theorem sX13_mend_45 {C : qCx} {w : qWp} (h : qOk C w RX13 cX13_mend 6 14 155 155) (hm : qMt C (some .int)) (hx : qNx C) {j80 : qT (Int32 × qM)} {j76 : qT (Int32 × qM)} (k80 : qSnd C w 6 155 (qQf C w 155 155 jI) qfin 155 139 j80) (k76 : qSnd C w 6 155 (qQf C w 155 155 jI) qfin 155 131 j76) : qSnd C w 6 155 (qQf C w 155 155 jI) qfin 155 76 (tX13_mend_45 j80 j76) :=
  cLi (pc := 76) h dX13_mend_76 rfl (cLa (pc := 77) h dX13_mend_77 rfl (gGi (pc := 78) h dX13_mend_78 ff_X13_313_98 (Nat.le_of_ble_eq_true rfl) (Nat.le_of_ble_eq_true rfl) (jCGe (pc := 81) h dX13_mend_81 rfl (cC (pc := 137) h dX13_mend_137 rfl (cSi (pc := 138) h dX13_mend_138 rfl (k80))) (cLa (pc := 84) h dX13_mend_84 rfl (gGf (pc := 85) h dX13_mend_85 ff_X13_292_98 (Nat.le_of_ble_eq_true rfl) (Nat.le_of_ble_eq_true rfl) rfl (cLi (pc := 88) h dX13_mend_88 rfl (rAz (pc := 89) h dX13_mend_89 rfl (Nat.le_of_ble_eq_true rfl) (Nat.le_of_ble_eq_true rfl) (jNe (pc := 90) h dX13_mend_90 rfl (cLa (pc := 96) h dX13_mend_96 rfl (gGf (pc := 97) h dX13_mend_97 ff_X13_232_98 (Nat.le_of_ble_eq_true rfl) (Nat.le_of_ble_eq_true rfl) rfl (cLa (pc := 100) h dX13_mend_100 rfl (gGi (pc := 101) h dX13_mend_101 ff_X13_394_98 (Nat.le_of_ble_eq_true rfl) (Nat.le_of_ble_eq_true rfl) (cLi (pc := 104) h dX13_mend_104 rfl (rWi (pc := 105) h dX13_mend_105 rfl (Nat.le_of_ble_eq_true rfl) (Nat.le_of_ble_eq_true rfl) (cLa (pc := 106) h dX13_mend_106 rfl (gGf (pc := 107) h dX13_mend_107 ff_X13_238_98 (Nat.le_of_ble_eq_true rfl) (Nat.le_of_ble_eq_true rfl) rfl (cLa (pc := 110) h dX13_mend_110 rfl (gGi (pc := 111) h dX13_mend_111 ff_X13_394_98 (Nat.le_of_ble_eq_true rfl) (Nat.le_of_ble_eq_true rfl) (cLa (pc := 114) h dX13_mend_114 rfl (gGf (pc := 115) h dX13_mend_115 ff_X13_221_98 (Nat.le_of_ble_eq_true rfl) (Nat.le_of_ble_eq_true rfl) rfl (cLi (pc := 118) h dX13_mend_118 rfl (rAi (pc := 119) h dX13_mend_119 rfl (Nat.le_of_ble_eq_true rfl) (Nat.le_of_ble_eq_true rfl) (rWi (pc := 120) h dX13_mend_120 rfl (Nat.le_of_ble_eq_true rfl) (Nat.le_of_ble_eq_true rfl) (cLa (pc := 121) h dX13_mend_121 rfl (aDup (pc := 122) h dX13_mend_122 (gGi (pc := 123) h dX13_mend_123 ff_X13_394_98 (Nat.le_of_ble_eq_true rfl) (Nat.le_of_ble_eq_true rfl) (cC (pc := 126) h dX13_mend_126 rfl (aAdd (pc := 127) h dX13_mend_127 (gPi (pc := 128) h dX13_mend_128 ff_X13_394_98 (Or.inl rfl) (Nat.le_of_ble_eq_true rfl) (Nat.le_of_ble_eq_true rfl) (k76)))))))))))))))))))))) (jGo (pc := 93) h dX13_mend_93 rfl (k76))))))))))
set_option maxRecDepth 20000 in
theorem lX13_mend_45 (k80 : Int32 → Int32 → qM → Option (Int32 × qM)) (n : Nat) (a1 : Int32) (a3 : Int32) (m : qM) : tX13_mend_45 (wX13_mend_80 k80) (wX13_mend_76 (fX13_mend_76 (fX13_mend_45 k80 n))) [some (.ref 98), some (.int a1), none, some (.int a3), none, none] [] m = fX13_mend_45 k80 (n + 1) a1 a3 m := rfl
theorem bX13_mend_45 {C : qCx} {w : qWp} (h : qOk C w RX13 cX13_mend 6 14 155 155) (hm : qMt C (some .int)) (hx : qNx C) {k80 : Int32 → Int32 → qM → Option (Int32 × qM)} (h80 : qSnd C w 6 155 (qQf C w 155 155 jI) qfin 155 139 (wX13_mend_80 k80)) : ∀ n : Nat, qSnd C w 6 155 (qQf C w 155 155 jI) qfin 155 76 (wX13_mend_45 (fX13_mend_45 k80 n))
  | 0 => qSnd_of0 (fun lo st m x hr0 => by
    unfold wX13_mend_45 at hr0
    split at hr0
    · cases hr0
    · cases hr0)
  | n + 1 => by
    have ih := bX13_mend_45 h hm hx h80 n
    exact qSnd_of (fun lo st m x hr0 => by
    unfold wX13_mend_45 at hr0
    split at hr0
    · exact ⟨_, (qsub_e (qsub_e (qsub_n (qsub_e (qsub_n (qsub_n qsub_nil)))))), (lX13_mend_45 _ n _ _ _).trans hr0⟩
    · cases hr0) (sX13_mend_45 h hm hx h80 (bX13_mend_76 h hm hx ih))
noncomputable def tX13_mend_80 (j116 : qT (Int32 × qM)) (j80 : qT (Int32 × qM)) : qT (Int32 × qM) :=
  oLi 3 (oLa 0 (oGi 98 43 (oCGe (oLa 0 (oC (.int (20 : Int32)) (oLi 1 (oLa 0 (oGf 98 0 99 (oC (.int (0 : Int32)) (oAi 99 6 (o2 (· + ·) (oC (.int (1 : Int32)) (o2 (· - ·) (oLa 0 (oGf 98 0 99 (oC (.int (0 : Int32)) (oAi 99 6 (oDiv (oCi GJ9_min_7cf53 2 (oCi GX13_layBest 2 (oSi 3 (oC (.int (0 : Int32)) (oSi 4 (oC (.int (0 : Int32)) (oSi 5 (j116))))))))))))))))))))))) (oLa 0 (oGf 98 36 125 (oLa 0 (oGf 98 40 129 (oLi 3 (oAi 129 4 (oC (.int (-1 : Int32)) (oWi 125 40 (oInc 3 (1 : Int32) (j80)))))))))))))
noncomputable def wX13_mend_116 (k : Int32 → Int32 → qM → Option (Int32 × qM)) : qT (Int32 × qM) := fun lo st m => match lo, st with
  | [some (.ref 98), _, _, _, some (.int a4), some (.int a5)], [] => k a4 a5 m
  | _, _ => none
set_option maxRecDepth 20000 in
theorem sX13_mend_80 {C : qCx} {w : qWp} (h : qOk C w RX13 cX13_mend 6 14 155 155) (hm : qMt C (some .int)) (hx : qNx C) {j116 : qT (Int32 × qM)} {j80 : qT (Int32 × qM)} (k116 : qSnd C w 6 155 (qQf C w 155 155 jI) qfin 155 198 j116) (k80 : qSnd C w 6 155 (qQf C w 155 155 jI) qfin 155 139 j80) : qSnd C w 6 155 (qQf C w 155 155 jI) qfin 155 139 (tX13_mend_80 j116 j80) :=
  cLi (pc := 139) h dX13_mend_139 rfl (cLa (pc := 140) h dX13_mend_140 rfl (gGi (pc := 141) h dX13_mend_141 ff_X13_394_98 (Nat.le_of_ble_eq_true rfl) (Nat.le_of_ble_eq_true rfl) (jCGe (pc := 144) h dX13_mend_144 rfl (cLa (pc := 165) h dX13_mend_165 rfl (cB (pc := 166) h dX13_mend_166 rfl (cLi (pc := 168) h dX13_mend_168 rfl (cLa (pc := 169) h dX13_mend_169 rfl (gGf (pc := 170) h dX13_mend_170 ff_X13_174_98 (Nat.le_of_ble_eq_true rfl) (Nat.le_of_ble_eq_true rfl) rfl (cC (pc := 173) h dX13_mend_173 rfl (rAi (pc := 174) h dX13_mend_174 rfl (Nat.le_of_ble_eq_true rfl) (Nat.le_of_ble_eq_true rfl) (aAdd (pc := 175) h dX13_mend_175 (cC (pc := 176) h dX13_mend_176 rfl (aSub (pc := 177) h dX13_mend_177 (cLa (pc := 178) h dX13_mend_178 rfl (gGf (pc := 179) h dX13_mend_179 ff_X13_174_98 (Nat.le_of_ble_eq_true rfl) (Nat.le_of_ble_eq_true rfl) rfl (cC (pc := 182) h dX13_mend_182 rfl (rAi (pc := 183) h dX13_mend_183 rfl (Nat.le_of_ble_eq_true rfl) (Nat.le_of_ble_eq_true rfl) (aDiv (pc := 184) h dX13_mend_184 (kCi (pc := 185) h (kd_X13_382 h dX13_mend_185) spJ9_min_7cf53 (by decide) (by decide) (by decide) (by decide) (kCi (pc := 188) h (kd_X13_419 h dX13_mend_188) spX13_layBest (by decide) (by decide) (by decide) (by decide) (cSi (pc := 191) h dX13_mend_191 rfl (cC (pc := 192) h dX13_mend_192 rfl (cSI (pc := 193) h dX13_mend_193 (cC (pc := 195) h dX13_mend_195 rfl (cSI (pc := 196) h dX13_mend_196 (k116))))))))))))))))))))))) (cLa (pc := 147) h dX13_mend_147 rfl (gGf (pc := 148) h dX13_mend_148 ff_X13_221_98 (Nat.le_of_ble_eq_true rfl) (Nat.le_of_ble_eq_true rfl) rfl (cLa (pc := 151) h dX13_mend_151 rfl (gGf (pc := 152) h dX13_mend_152 ff_X13_232_98 (Nat.le_of_ble_eq_true rfl) (Nat.le_of_ble_eq_true rfl) rfl (cLi (pc := 155) h dX13_mend_155 rfl (rAi (pc := 156) h dX13_mend_156 rfl (Nat.le_of_ble_eq_true rfl) (Nat.le_of_ble_eq_true rfl) (cC (pc := 157) h dX13_mend_157 rfl (rWi (pc := 158) h dX13_mend_158 rfl (Nat.le_of_ble_eq_true rfl) (Nat.le_of_ble_eq_true rfl) (cInc (pc := 159) h dX13_mend_159 rfl (jGo (pc := 162) h dX13_mend_162 rfl (k80))))))))))))))
set_option maxRecDepth 20000 in
theorem lX13_mend_80 (k116 : Int32 → Int32 → qM → Option (Int32 × qM)) (n : Nat) (a1 : Int32) (a3 : Int32) (m : qM) : tX13_mend_80 (wX13_mend_116 k116) (wX13_mend_80 ((fX13_mend_80 k116 n))) [some (.ref 98), some (.int a1), none, some (.int a3), none, none] [] m = fX13_mend_80 k116 (n + 1) a1 a3 m := rfl
theorem bX13_mend_80 {C : qCx} {w : qWp} (h : qOk C w RX13 cX13_mend 6 14 155 155) (hm : qMt C (some .int)) (hx : qNx C) {k116 : Int32 → Int32 → qM → Option (Int32 × qM)} (h116 : qSnd C w 6 155 (qQf C w 155 155 jI) qfin 155 198 (wX13_mend_116 k116)) : ∀ n : Nat, qSnd C w 6 155 (qQf C w 155 155 jI) qfin 155 139 (wX13_mend_80 (fX13_mend_80 k116 n))
  | 0 => qSnd_of0 (fun lo st m x hr0 => by
    unfold wX13_mend_80 at hr0
    split at hr0
    · cases hr0
    · cases hr0)
  | n + 1 => by
    have ih := bX13_mend_80 h hm hx h116 n
    exact qSnd_of (fun lo st m x hr0 => by
    unfold wX13_mend_80 at hr0
    split at hr0
    · exact ⟨_, (qsub_e (qsub_e (qsub_n (qsub_e (qsub_n (qsub_n qsub_nil)))))), (lX13_mend_80 _ n _ _ _).trans hr0⟩
    · cases hr0) (sX13_mend_80 h hm hx h116 ih)
noncomputable def tX13_mend_136 (j116 : qT (Int32 × qM)) : qT (Int32 × qM) :=
  o2 (· + ·) (oSi 4 (oInc 5 (1 : Int32) (j116)))
noncomputable def wX13_mend_136 (k : Int32 → Int32 → Int32 → qM → Option (Int32 × qM)) : qT (Int32 × qM) := fun lo st m => match lo, st with
  | [some (.ref 98), _, _, _, _, some (.int a5)], [.int s0, .int s1] => k a5 s0 s1 m
  | _, _ => none
set_option maxRecDepth 20000 in
theorem sX13_mend_136 {C : qCx} {w : qWp} (h : qOk C w RX13 cX13_mend 6 14 155 155) (hm : qMt C (some .int)) (hx : qNx C) {j116 : qT (Int32 × qM)} (k116 : qSnd C w 6 155 (qQf C w 155 155 jI) qfin 155 198 j116) : qSnd C w 6 155 (qQf C w 155 155 jI) qfin 155 236 (tX13_mend_136 j116) :=
  aAdd (pc := 236) h dX13_mend_236 (cSI (pc := 237) h dX13_mend_237 (cInc (pc := 239) h dX13_mend_239 rfl (jGo (pc := 242) h dX13_mend_242 rfl (k116))))
set_option maxRecDepth 20000 in
theorem lX13_mend_136 (k116 : Int32 → Int32 → qM → Option (Int32 × qM)) (a5 : Int32) (s0 : Int32) (s1 : Int32) (m : qM) : tX13_mend_136 (wX13_mend_116 k116) [some (.ref 98), none, none, none, none, some (.int a5)] [(.int s0), (.int s1)] m = fX13_mend_136 k116 a5 s0 s1 m := rfl
theorem bX13_mend_136 {C : qCx} {w : qWp} (h : qOk C w RX13 cX13_mend 6 14 155 155) (hm : qMt C (some .int)) (hx : qNx C) {k116 : Int32 → Int32 → qM → Option (Int32 × qM)} (h116 : qSnd C w 6 155 (qQf C w 155 155 jI) qfin 155 198 (wX13_mend_116 k116)) : qSnd C w 6 155 (qQf C w 155 155 jI) qfin 155 236 (wX13_mend_136 (fX13_mend_136 k116)) :=
  qSnd_of (fun lo st m x hr0 => by
    unfold wX13_mend_136 at hr0
    split at hr0
    · exact ⟨_, (qsub_e (qsub_n (qsub_n (qsub_n (qsub_n (qsub_e qsub_nil)))))), (lX13_mend_136 _ _ _ _ _).trans hr0⟩
    · cases hr0) (sX13_mend_136 h hm hx h116)
noncomputable def tX13_mend_116 (j136 : qT (Int32 × qM)) : qT (Int32 × qM) :=
  oLi 5 (oLa 0 (oGi 98 43 (oCGe (oLi 4 (eI)) (oLi 4 (oLa 0 (oGf 98 36 125 (oLa 0 (oGf 98 40 129 (oLi 5 (oAi 129 4 (oAi 125 40 (oLa 0 (oGf 98 42 131 (oLi 5 (oAi 131 4 (oCEq (oC (.int (0 : Int32)) (j136)) (oC (.int (1 : Int32)) (j136))))))))))))))))))
set_option maxRecDepth 20000 in
theorem sX13_mend_116 {C : qCx} {w : qWp} (h : qOk C w RX13 cX13_mend 6 14 155 155) (hm : qMt C (some .int)) (hx : qNx C) {j136 : qT (Int32 × qM)} (k136 : qSnd C w 6 155 (qQf C w 155 155 jI) qfin 155 236 j136) : qSnd C w 6 155 (qQf C w 155 155 jI) qfin 155 198 (tX13_mend_116 j136) :=
  cLI (pc := 198) h dX13_mend_198 (cLa (pc := 200) h dX13_mend_200 rfl (gGi (pc := 201) h dX13_mend_201 ff_X13_394_98 (Nat.le_of_ble_eq_true rfl) (Nat.le_of_ble_eq_true rfl) (jCGe (pc := 204) h dX13_mend_204 rfl (cLI (pc := 245) h dX13_mend_245 (zI (pc := 247) h hm (Nat.le_refl _) dX13_mend_247)) (cLI (pc := 207) h dX13_mend_207 (cLa (pc := 209) h dX13_mend_209 rfl (gGf (pc := 210) h dX13_mend_210 ff_X13_221_98 (Nat.le_of_ble_eq_true rfl) (Nat.le_of_ble_eq_true rfl) rfl (cLa (pc := 213) h dX13_mend_213 rfl (gGf (pc := 214) h dX13_mend_214 ff_X13_232_98 (Nat.le_of_ble_eq_true rfl) (Nat.le_of_ble_eq_true rfl) rfl (cLI (pc := 217) h dX13_mend_217 (rAi (pc := 219) h dX13_mend_219 rfl (Nat.le_of_ble_eq_true rfl) (Nat.le_of_ble_eq_true rfl) (rAi (pc := 220) h dX13_mend_220 rfl (Nat.le_of_ble_eq_true rfl) (Nat.le_of_ble_eq_true rfl) (cLa (pc := 221) h dX13_mend_221 rfl (gGf (pc := 222) h dX13_mend_222 ff_X13_238_98 (Nat.le_of_ble_eq_true rfl) (Nat.le_of_ble_eq_true rfl) rfl (cLI (pc := 225) h dX13_mend_225 (rAi (pc := 227) h dX13_mend_227 rfl (Nat.le_of_ble_eq_true rfl) (Nat.le_of_ble_eq_true rfl) (jCEq (pc := 228) h dX13_mend_228 rfl (cC (pc := 235) h dX13_mend_235 rfl (k136)) (cC (pc := 231) h dX13_mend_231 rfl (jGo (pc := 232) h dX13_mend_232 rfl (k136)))))))))))))))))))
set_option maxRecDepth 20000 in
theorem lX13_mend_116 (n : Nat) (a4 : Int32) (a5 : Int32) (m : qM) : tX13_mend_116 (wX13_mend_136 (fX13_mend_136 (fX13_mend_116 n))) [some (.ref 98), none, none, none, some (.int a4), some (.int a5)] [] m = fX13_mend_116 (n + 1) a4 a5 m := rfl
theorem bX13_mend_116 {C : qCx} {w : qWp} (h : qOk C w RX13 cX13_mend 6 14 155 155) (hm : qMt C (some .int)) (hx : qNx C) : ∀ n : Nat, qSnd C w 6 155 (qQf C w 155 155 jI) qfin 155 198 (wX13_mend_116 (fX13_mend_116 n))
  | 0 => qSnd_of0 (fun lo st m x hr0 => by
    unfold wX13_mend_116 at hr0
    split at hr0
    · cases hr0
    · cases hr0)
  | n + 1 => by
    have ih := bX13_mend_116 h hm hx n
    exact qSnd_of (fun lo st m x hr0 => by
    unfold wX13_mend_116 at hr0
    split at hr0
    · exact ⟨_, (qsub_e (qsub_n (qsub_n (qsub_n (qsub_e (qsub_e qsub_nil)))))), (lX13_mend_116 n _ _ _).trans hr0⟩
    · cases hr0) (sX13_mend_116 h hm hx (bX13_mend_136 h hm hx ih))
noncomputable def tX13_mend_0 (j18 : qT (Int32 × qM)) : qT (Int32 × qM) :=
  oLa 0 (oLi 1 (oCi GX13_isMinute 2 (oEq (oC (.int (-2 : Int32)) (eI)) (oLa 0 (oGi 98 33 (oEq (oC (.int (-4 : Int32)) (eI)) (oLa 0 (oLi 1 (oCv GX13_goThrough 2 (oC (.int (0 : Int32)) (oSi 2 (oC (.int (0 : Int32)) (oSi 3 (j18))))))))))))))
set_option maxRecDepth 20000 in
theorem sX13_mend_0 {C : qCx} {w : qWp} (h : qOk C w RX13 cX13_mend 6 14 155 155) (hm : qMt C (some .int)) (hx : qNx C) {j18 : qT (Int32 × qM)} (k18 : qSnd C w 6 155 (qQf C w 155 155 jI) qfin 155 30 j18) : qSnd C w 6 155 (qQf C w 155 155 jI) qfin 155 0 (tX13_mend_0 j18) :=
  cLa (pc := 0) h dX13_mend_0 rfl (cLi (pc := 1) h dX13_mend_1 rfl (kCi (pc := 2) h (kd_X13_449 h dX13_mend_2) spX13_isMinute (by decide) (by decide) (by decide) (by decide) (jNe (pc := 5) h dX13_mend_5 rfl (cLa (pc := 11) h dX13_mend_11 rfl (gGz (pc := 12) h dX13_mend_12 ff_X13_316_98 (Nat.le_of_ble_eq_true rfl) (Nat.le_of_ble_eq_true rfl) (jNe (pc := 15) h dX13_mend_15 rfl (cLa (pc := 21) h dX13_mend_21 rfl (cLi (pc := 22) h dX13_mend_22 rfl (kCv (pc := 23) h (kd_X13_503 h dX13_mend_23) spX13_goThrough (by decide) (by decide) (by decide) (by decide) (cC (pc := 26) h dX13_mend_26 rfl (cSi (pc := 27) h dX13_mend_27 rfl (cC (pc := 28) h dX13_mend_28 rfl (cSi (pc := 29) h dX13_mend_29 rfl (k18)))))))) (cB (pc := 18) h dX13_mend_18 rfl (zI (pc := 20) h hm (Nat.le_refl _) dX13_mend_20))))) (cB (pc := 8) h dX13_mend_8 rfl (zI (pc := 10) h hm (Nat.le_refl _) dX13_mend_10)))))
set_option maxRecDepth 20000 in
theorem lX13_mend_0 (a1 : Int32) (m : qM) : tX13_mend_0 (wX13_mend_18 (fX13_mend_18 (fX13_mend_45 (fX13_mend_80 (fX13_mend_116 FU) FU) FU) FU)) [some (.ref 98), some (.int a1), none, none, none, none] [] m = fX13_mend_0 a1 m := rfl
noncomputable def GX13_mend : qG Int32 := fun av m => match av with
  | [.ref 98, .int a1] => fX13_mend a1 m
  | _ => none
theorem spX13_mend : qSpI yX13_mend (.code yX13_mend cX13_mend 6 (some .int)) 14 qfin 155 155 1 GX13_mend := by
  intro av m x m' hG
  unfold GX13_mend at hG
  split at hG
  · rename_i a1
    rw [fX13_mend_d] at hG
    exact ⟨qmeet (J := jI) (r := (x, m')) (av := [.ref 98, .int a1]) (by decide +kernel) (Nat.le_of_ble_eq_true rfl) (fun C w h hm hx hn => sX13_mend_0 h hm hx (bX13_mend_18 h hm hx (bX13_mend_45 h hm hx (bX13_mend_80 h hm hx (bX13_mend_116 h hm hx FU) FU) FU) FU)) ((lX13_mend_0 _ _).trans hG) (Nat.le_of_ble_eq_true rfl), Or.inl ⟨98, _, 13, _, _, rfl, by decide, rfl, qCk_13, rfl⟩⟩
  · cases hG
theorem fc_X13_509 : Jvm.Cond.constantLong RX13 509 (32 : Int64) ∈ qTw := qm9 (List.mem_of_getElem? (i := 126) (by decide +kernel)) (by decide +kernel)
theorem fc_X13_511 : Jvm.Cond.constantLong RX13 511 (126 : Int64) ∈ qTw := qm9 (List.mem_of_getElem? (i := 127) (by decide +kernel)) (by decide +kernel)
theorem mf_X13_298 : Jvm.Cond.fieldLink RX13 298 (qTb 13 71).1 (qTb 13 71).2.1 (qTb 13 71).2.2.1 ∈ qTw := qm7 (List.mem_of_getElem? (i := 49) (by decide +kernel)) (by decide +kernel)
theorem ff_X13_298_98 : qFd RX13 298 98 13 71 3 := ⟨mf_X13_298, rfl, by decide, rfl⟩
theorem mf_X13_304 : Jvm.Cond.fieldLink RX13 304 (qTb 13 73).1 (qTb 13 73).2.1 (qTb 13 73).2.2.1 ∈ qTw := qm7 (List.mem_of_getElem? (i := 51) (by decide +kernel)) (by decide +kernel)
theorem ff_X13_304_98 : qFd RX13 304 98 13 73 3 := ⟨mf_X13_304, rfl, by decide, rfl⟩
theorem dX13_note_0 : decode cX13_note 0 = .ok (.aload_n 0, 1) := by decide +kernel
theorem dX13_note_1 : decode cX13_note 1 = .ok (.invokevirtual 323, 3) := by decide +kernel
theorem dX13_note_4 : decode cX13_note 4 = .ok (.aload_n 0, 1) := by decide +kernel
theorem dX13_note_5 : decode cX13_note 5 = .ok (.iload_n 1, 1) := by decide +kernel
theorem dX13_note_6 : decode cX13_note 6 = .ok (.invokevirtual 372, 3) := by decide +kernel
theorem dX13_note_9 : decode cX13_note 9 = .ok (.ifCond .ne 6, 3) := by decide +kernel
theorem dX13_note_12 : decode cX13_note 12 = .ok (.bipush (-2), 2) := by decide +kernel
theorem dX13_note_14 : decode cX13_note 14 = .ok (.ireturn, 1) := by decide +kernel
theorem dX13_note_15 : decode cX13_note 15 = .ok (.aload_n 0, 1) := by decide +kernel
theorem dX13_note_16 : decode cX13_note 16 = .ok (.getfield 17, 3) := by decide +kernel
theorem dX13_note_19 : decode cX13_note 19 = .ok (.i2l, 1) := by decide +kernel
theorem dX13_note_20 : decode cX13_note 20 = .ok (.lconst 1, 1) := by decide +kernel
theorem dX13_note_21 : decode cX13_note 21 = .ok (.ldc2_w 442, 3) := by decide +kernel
theorem dX13_note_24 : decode cX13_note 24 = .ok (.invokestatic 66, 3) := by decide +kernel
theorem dX13_note_27 : decode cX13_note 27 = .ok (.ifCond .ne 5, 3) := by decide +kernel
theorem dX13_note_30 : decode cX13_note 30 = .ok (.iconst (-1), 1) := by decide +kernel
theorem dX13_note_31 : decode cX13_note 31 = .ok (.ireturn, 1) := by decide +kernel
theorem dX13_note_32 : decode cX13_note 32 = .ok (.iconst 0, 1) := by decide +kernel
theorem dX13_note_33 : decode cX13_note 33 = .ok (.istore_n 2, 1) := by decide +kernel
theorem dX13_note_34 : decode cX13_note 34 = .ok (.iload_n 2, 1) := by decide +kernel
theorem dX13_note_35 : decode cX13_note 35 = .ok (.aload_n 0, 1) := by decide +kernel
theorem dX13_note_36 : decode cX13_note 36 = .ok (.getfield 17, 3) := by decide +kernel
theorem dX13_note_39 : decode cX13_note 39 = .ok (.if_icmp .ge 30, 3) := by decide +kernel
theorem dX13_note_42 : decode cX13_note 42 = .ok (.aload_n 0, 1) := by decide +kernel
theorem dX13_note_43 : decode cX13_note 43 = .ok (.getfield 20, 3) := by decide +kernel
theorem dX13_note_46 : decode cX13_note 46 = .ok (.iload_n 2, 1) := by decide +kernel
theorem dX13_note_47 : decode cX13_note 47 = .ok (.baload, 1) := by decide +kernel
theorem dX13_note_48 : decode cX13_note 48 = .ok (.i2l, 1) := by decide +kernel
theorem dX13_note_49 : decode cX13_note 49 = .ok (.ldc2_w 509, 3) := by decide +kernel
theorem dX13_note_52 : decode cX13_note 52 = .ok (.ldc2_w 511, 3) := by decide +kernel
theorem dX13_note_55 : decode cX13_note 55 = .ok (.invokestatic 66, 3) := by decide +kernel
theorem dX13_note_58 : decode cX13_note 58 = .ok (.ifCond .ne 5, 3) := by decide +kernel
theorem dX13_note_61 : decode cX13_note 61 = .ok (.iconst (-1), 1) := by decide +kernel
theorem dX13_note_62 : decode cX13_note 62 = .ok (.ireturn, 1) := by decide +kernel
theorem dX13_note_63 : decode cX13_note 63 = .ok (.iinc 2 1, 3) := by decide +kernel
theorem dX13_note_66 : decode cX13_note 66 = .ok (.goto (-32), 3) := by decide +kernel
theorem dX13_note_69 : decode cX13_note 69 = .ok (.iconst 0, 1) := by decide +kernel
theorem dX13_note_70 : decode cX13_note 70 = .ok (.istore_n 2, 1) := by decide +kernel
theorem dX13_note_71 : decode cX13_note 71 = .ok (.iload_n 2, 1) := by decide +kernel
theorem dX13_note_72 : decode cX13_note 72 = .ok (.aload_n 0, 1) := by decide +kernel
theorem dX13_note_73 : decode cX13_note 73 = .ok (.getfield 17, 3) := by decide +kernel
theorem dX13_note_76 : decode cX13_note 76 = .ok (.if_icmp .ge 26, 3) := by decide +kernel
theorem dX13_note_79 : decode cX13_note 79 = .ok (.aload_n 0, 1) := by decide +kernel
theorem dX13_note_80 : decode cX13_note 80 = .ok (.getfield 304, 3) := by decide +kernel
theorem dX13_note_83 : decode cX13_note 83 = .ok (.bipush 60, 2) := by decide +kernel
theorem dX13_note_85 : decode cX13_note 85 = .ok (.iload_n 1, 1) := by decide +kernel
theorem dX13_note_86 : decode cX13_note 86 = .ok (.imul, 1) := by decide +kernel
theorem dX13_note_87 : decode cX13_note 87 = .ok (.iload_n 2, 1) := by decide +kernel
theorem dX13_note_88 : decode cX13_note 88 = .ok (.iadd, 1) := by decide +kernel
theorem dX13_note_89 : decode cX13_note 89 = .ok (.aload_n 0, 1) := by decide +kernel
theorem dX13_note_90 : decode cX13_note 90 = .ok (.getfield 20, 3) := by decide +kernel
theorem dX13_note_93 : decode cX13_note 93 = .ok (.iload_n 2, 1) := by decide +kernel
theorem dX13_note_94 : decode cX13_note 94 = .ok (.baload, 1) := by decide +kernel
theorem dX13_note_95 : decode cX13_note 95 = .ok (.bastore, 1) := by decide +kernel
theorem dX13_note_96 : decode cX13_note 96 = .ok (.iinc 2 1, 3) := by decide +kernel
theorem dX13_note_99 : decode cX13_note 99 = .ok (.goto (-28), 3) := by decide +kernel
theorem dX13_note_102 : decode cX13_note 102 = .ok (.aload_n 0, 1) := by decide +kernel
theorem dX13_note_103 : decode cX13_note 103 = .ok (.getfield 298, 3) := by decide +kernel
theorem dX13_note_106 : decode cX13_note 106 = .ok (.iload_n 1, 1) := by decide +kernel
theorem dX13_note_107 : decode cX13_note 107 = .ok (.aload_n 0, 1) := by decide +kernel
theorem dX13_note_108 : decode cX13_note 108 = .ok (.getfield 17, 3) := by decide +kernel
theorem dX13_note_111 : decode cX13_note 111 = .ok (.iastore, 1) := by decide +kernel
theorem dX13_note_112 : decode cX13_note 112 = .ok (.aload_n 0, 1) := by decide +kernel
theorem dX13_note_113 : decode cX13_note 113 = .ok (.getfield 17, 3) := by decide +kernel
theorem dX13_note_116 : decode cX13_note 116 = .ok (.ireturn, 1) := by decide +kernel
noncomputable def tX13_note_19 (j38 : qT (Int32 × qM)) (j19 : qT (Int32 × qM)) : qT (Int32 × qM) :=
  oLi 2 (oLa 0 (oGi 98 13 (oCGe (oC (.int (0 : Int32)) (oSi 2 (j38))) (oLa 0 (oGf 98 11 110 (oLi 2 (oAi 110 400 (oI2l (oC (.long (32 : Int64)) (oC (.long (126 : Int64)) (oCi GX13_in 3 (oEq (oC (.int (-1 : Int32)) (eI)) (oInc 2 (1 : Int32) (j19))))))))))))))
noncomputable def wX13_note_19 (k : Int32 → Int32 → qM → Option (Int32 × qM)) : qT (Int32 × qM) := fun lo st m => match lo, st with
  | [some (.ref 98), some (.int a1), some (.int a2)], [] => k a1 a2 m
  | _, _ => none
noncomputable def wX13_note_38 (k : Int32 → Int32 → qM → Option (Int32 × qM)) : qT (Int32 × qM) := fun lo st m => match lo, st with
  | [some (.ref 98), some (.int a1), some (.int a2)], [] => k a1 a2 m
  | _, _ => none
set_option maxRecDepth 20000 in
theorem sX13_note_19 {C : qCx} {w : qWp} (h : qOk C w RX13 cX13_note 3 2 155 155) (hm : qMt C (some .int)) (hx : qNx C) {j38 : qT (Int32 × qM)} {j19 : qT (Int32 × qM)} (k38 : qSnd C w 3 155 (qQf C w 155 155 jI) qfin 155 71 j38) (k19 : qSnd C w 3 155 (qQf C w 155 155 jI) qfin 155 34 j19) : qSnd C w 3 155 (qQf C w 155 155 jI) qfin 155 34 (tX13_note_19 j38 j19) :=
  cLi (pc := 34) h dX13_note_34 rfl (cLa (pc := 35) h dX13_note_35 rfl (gGi (pc := 36) h dX13_note_36 ff_X13_17_98 (Nat.le_of_ble_eq_true rfl) (Nat.le_of_ble_eq_true rfl) (jCGe (pc := 39) h dX13_note_39 rfl (cC (pc := 69) h dX13_note_69 rfl (cSi (pc := 70) h dX13_note_70 rfl (k38))) (cLa (pc := 42) h dX13_note_42 rfl (gGf (pc := 43) h dX13_note_43 ff_X13_20_98 (Nat.le_of_ble_eq_true rfl) (Nat.le_of_ble_eq_true rfl) rfl (cLi (pc := 46) h dX13_note_46 rfl (rAb (pc := 47) h dX13_note_47 rfl (Nat.le_of_ble_eq_true rfl) (Nat.le_of_ble_eq_true rfl) (aI2l (pc := 48) h dX13_note_48 (cKJ (pc := 49) h dX13_note_49 fc_X13_509 (cKJ (pc := 52) h dX13_note_52 fc_X13_511 (kCi (pc := 55) h (kd_X13_66 h dX13_note_55) spX13_in (by decide) (by decide) (by decide) (by decide) (jNe (pc := 58) h dX13_note_58 rfl (cInc (pc := 63) h dX13_note_63 rfl (jGo (pc := 66) h dX13_note_66 rfl (k19))) (cC (pc := 61) h dX13_note_61 rfl (zI (pc := 62) h hm (Nat.le_refl _) dX13_note_62))))))))))))))
set_option maxRecDepth 20000 in
theorem lX13_note_19 (k38 : Int32 → Int32 → qM → Option (Int32 × qM)) (n : Nat) (a1 : Int32) (a2 : Int32) (m : qM) : tX13_note_19 (wX13_note_38 k38) (wX13_note_19 ((fX13_note_19 k38 n))) [some (.ref 98), some (.int a1), some (.int a2)] [] m = fX13_note_19 k38 (n + 1) a1 a2 m := rfl
theorem bX13_note_19 {C : qCx} {w : qWp} (h : qOk C w RX13 cX13_note 3 2 155 155) (hm : qMt C (some .int)) (hx : qNx C) {k38 : Int32 → Int32 → qM → Option (Int32 × qM)} (h38 : qSnd C w 3 155 (qQf C w 155 155 jI) qfin 155 71 (wX13_note_38 k38)) : ∀ n : Nat, qSnd C w 3 155 (qQf C w 155 155 jI) qfin 155 34 (wX13_note_19 (fX13_note_19 k38 n))
  | 0 => qSnd_of0 (fun lo st m x hr0 => by
    unfold wX13_note_19 at hr0
    split at hr0
    · cases hr0
    · cases hr0)
  | n + 1 => by
    have ih := bX13_note_19 h hm hx h38 n
    exact qSnd_of (fun lo st m x hr0 => by
    unfold wX13_note_19 at hr0
    split at hr0
    · exact ⟨_, (qsub_e (qsub_e (qsub_e qsub_nil))), (lX13_note_19 _ n _ _ _).trans hr0⟩
    · cases hr0) (sX13_note_19 h hm hx h38 ih)
noncomputable def tX13_note_38 (j38 : qT (Int32 × qM)) : qT (Int32 × qM) :=
  oLi 2 (oLa 0 (oGi 98 13 (oCGe (oLa 0 (oGf 98 71 151 (oLi 1 (oLa 0 (oGi 98 13 (oWi 151 40 (oLa 0 (oGi 98 13 (eI))))))))) (oLa 0 (oGf 98 73 153 (oC (.int (60 : Int32)) (oLi 1 (o2 (· * ·) (oLi 2 (o2 (· + ·) (oLa 0 (oGf 98 11 110 (oLi 2 (oAi 110 400 (oWb 153 2400 (oInc 2 (1 : Int32) (j38)))))))))))))))))
set_option maxRecDepth 20000 in
theorem sX13_note_38 {C : qCx} {w : qWp} (h : qOk C w RX13 cX13_note 3 2 155 155) (hm : qMt C (some .int)) (hx : qNx C) {j38 : qT (Int32 × qM)} (k38 : qSnd C w 3 155 (qQf C w 155 155 jI) qfin 155 71 j38) : qSnd C w 3 155 (qQf C w 155 155 jI) qfin 155 71 (tX13_note_38 j38) :=
  cLi (pc := 71) h dX13_note_71 rfl (cLa (pc := 72) h dX13_note_72 rfl (gGi (pc := 73) h dX13_note_73 ff_X13_17_98 (Nat.le_of_ble_eq_true rfl) (Nat.le_of_ble_eq_true rfl) (jCGe (pc := 76) h dX13_note_76 rfl (cLa (pc := 102) h dX13_note_102 rfl (gGf (pc := 103) h dX13_note_103 ff_X13_298_98 (Nat.le_of_ble_eq_true rfl) (Nat.le_of_ble_eq_true rfl) rfl (cLi (pc := 106) h dX13_note_106 rfl (cLa (pc := 107) h dX13_note_107 rfl (gGi (pc := 108) h dX13_note_108 ff_X13_17_98 (Nat.le_of_ble_eq_true rfl) (Nat.le_of_ble_eq_true rfl) (rWi (pc := 111) h dX13_note_111 rfl (Nat.le_of_ble_eq_true rfl) (Nat.le_of_ble_eq_true rfl) (cLa (pc := 112) h dX13_note_112 rfl (gGi (pc := 113) h dX13_note_113 ff_X13_17_98 (Nat.le_of_ble_eq_true rfl) (Nat.le_of_ble_eq_true rfl) (zI (pc := 116) h hm (Nat.le_refl _) dX13_note_116))))))))) (cLa (pc := 79) h dX13_note_79 rfl (gGf (pc := 80) h dX13_note_80 ff_X13_304_98 (Nat.le_of_ble_eq_true rfl) (Nat.le_of_ble_eq_true rfl) rfl (cB (pc := 83) h dX13_note_83 rfl (cLi (pc := 85) h dX13_note_85 rfl (aMul (pc := 86) h dX13_note_86 (cLi (pc := 87) h dX13_note_87 rfl (aAdd (pc := 88) h dX13_note_88 (cLa (pc := 89) h dX13_note_89 rfl (gGf (pc := 90) h dX13_note_90 ff_X13_20_98 (Nat.le_of_ble_eq_true rfl) (Nat.le_of_ble_eq_true rfl) rfl (cLi (pc := 93) h dX13_note_93 rfl (rAb (pc := 94) h dX13_note_94 rfl (Nat.le_of_ble_eq_true rfl) (Nat.le_of_ble_eq_true rfl) (rWb (pc := 95) h dX13_note_95 rfl (Nat.le_of_ble_eq_true rfl) (Nat.le_of_ble_eq_true rfl) (cInc (pc := 96) h dX13_note_96 rfl (jGo (pc := 99) h dX13_note_99 rfl (k38))))))))))))))))))
set_option maxRecDepth 20000 in
theorem lX13_note_38 (n : Nat) (a1 : Int32) (a2 : Int32) (m : qM) : tX13_note_38 (wX13_note_38 ((fX13_note_38 n))) [some (.ref 98), some (.int a1), some (.int a2)] [] m = fX13_note_38 (n + 1) a1 a2 m := rfl
theorem bX13_note_38 {C : qCx} {w : qWp} (h : qOk C w RX13 cX13_note 3 2 155 155) (hm : qMt C (some .int)) (hx : qNx C) : ∀ n : Nat, qSnd C w 3 155 (qQf C w 155 155 jI) qfin 155 71 (wX13_note_38 (fX13_note_38 n))
  | 0 => qSnd_of0 (fun lo st m x hr0 => by
    unfold wX13_note_38 at hr0
    split at hr0
    · cases hr0
    · cases hr0)
  | n + 1 => by
    have ih := bX13_note_38 h hm hx n
    exact qSnd_of (fun lo st m x hr0 => by
    unfold wX13_note_38 at hr0
    split at hr0
    · exact ⟨_, (qsub_e (qsub_e (qsub_e qsub_nil))), (lX13_note_38 n _ _ _).trans hr0⟩
    · cases hr0) (sX13_note_38 h hm hx ih)
noncomputable def tX13_note_0 (j19 : qT (Int32 × qM)) : qT (Int32 × qM) :=
  oLa 0 (oCv GX13_open 1 (oLa 0 (oLi 1 (oCi GX13_isAsk 2 (oEq (oC (.int (-2 : Int32)) (eI)) (oLa 0 (oGi 98 13 (oI2l (oC (.long (1 : Int64)) (oC (.long (60 : Int64)) (oCi GX13_in 3 (oEq (oC (.int (-1 : Int32)) (eI)) (oC (.int (0 : Int32)) (oSi 2 (j19)))))))))))))))
set_option maxRecDepth 20000 in
theorem sX13_note_0 {C : qCx} {w : qWp} (h : qOk C w RX13 cX13_note 3 2 155 155) (hm : qMt C (some .int)) (hx : qNx C) {j19 : qT (Int32 × qM)} (k19 : qSnd C w 3 155 (qQf C w 155 155 jI) qfin 155 34 j19) : qSnd C w 3 155 (qQf C w 155 155 jI) qfin 155 0 (tX13_note_0 j19) :=
  cLa (pc := 0) h dX13_note_0 rfl (kCv (pc := 1) h (kd_X13_323 h dX13_note_1) spX13_open (by decide) (by decide) (by decide) (by decide) (cLa (pc := 4) h dX13_note_4 rfl (cLi (pc := 5) h dX13_note_5 rfl (kCi (pc := 6) h (kd_X13_372 h dX13_note_6) spX13_isAsk (by decide) (by decide) (by decide) (by decide) (jNe (pc := 9) h dX13_note_9 rfl (cLa (pc := 15) h dX13_note_15 rfl (gGi (pc := 16) h dX13_note_16 ff_X13_17_98 (Nat.le_of_ble_eq_true rfl) (Nat.le_of_ble_eq_true rfl) (aI2l (pc := 19) h dX13_note_19 (cJ (pc := 20) h dX13_note_20 rfl (cKJ (pc := 21) h dX13_note_21 fc_X13_442 (kCi (pc := 24) h (kd_X13_66 h dX13_note_24) spX13_in (by decide) (by decide) (by decide) (by decide) (jNe (pc := 27) h dX13_note_27 rfl (cC (pc := 32) h dX13_note_32 rfl (cSi (pc := 33) h dX13_note_33 rfl (k19))) (cC (pc := 30) h dX13_note_30 rfl (zI (pc := 31) h hm (Nat.le_refl _) dX13_note_31))))))))) (cB (pc := 12) h dX13_note_12 rfl (zI (pc := 14) h hm (Nat.le_refl _) dX13_note_14)))))))
set_option maxRecDepth 20000 in
theorem lX13_note_0 (a1 : Int32) (m : qM) : tX13_note_0 (wX13_note_19 (fX13_note_19 (fX13_note_38 FU) FU)) [some (.ref 98), some (.int a1), none] [] m = fX13_note_0 a1 m := rfl
noncomputable def GX13_note : qG Int32 := fun av m => match av with
  | [.ref 98, .int a1] => fX13_note a1 m
  | _ => none
theorem spX13_note : qSpI yX13_note (.code yX13_note cX13_note 3 (some .int)) 2 qfin 155 155 1 GX13_note := by
  intro av m x m' hG
  unfold GX13_note at hG
  split at hG
  · rename_i a1
    rw [fX13_note_d] at hG
    exact ⟨qmeet (J := jI) (r := (x, m')) (av := [.ref 98, .int a1]) (by decide +kernel) (Nat.le_of_ble_eq_true rfl) (fun C w h hm hx hn => sX13_note_0 h hm hx (bX13_note_19 h hm hx (bX13_note_38 h hm hx FU) FU)) ((lX13_note_0 _ _).trans hG) (Nat.le_of_ble_eq_true rfl), Or.inl ⟨98, _, 13, _, _, rfl, by decide, rfl, qCk_13, rfl⟩⟩
  · cases hG
theorem mf_X13_307 : Jvm.Cond.fieldLink RX13 307 (qTb 13 74).1 (qTb 13 74).2.1 (qTb 13 74).2.2.1 ∈ qTw := qm7 (List.mem_of_getElem? (i := 52) (by decide +kernel)) (by decide +kernel)
theorem ff_X13_307_98 : qFd RX13 307 98 13 74 3 := ⟨mf_X13_307, rfl, by decide, rfl⟩
theorem dX13_let_0 : decode cX13_let 0 = .ok (.aload_n 0, 1) := by decide +kernel
theorem dX13_let_1 : decode cX13_let 1 = .ok (.iload_n 1, 1) := by decide +kernel
theorem dX13_let_2 : decode cX13_let 2 = .ok (.invokevirtual 372, 3) := by decide +kernel
theorem dX13_let_5 : decode cX13_let 5 = .ok (.ifCond .eq 10, 3) := by decide +kernel
theorem dX13_let_8 : decode cX13_let 8 = .ok (.iload_n 2, 1) := by decide +kernel
theorem dX13_let_9 : decode cX13_let 9 = .ok (.invokestatic 340, 3) := by decide +kernel
theorem dX13_let_12 : decode cX13_let 12 = .ok (.ifCond .ne 6, 3) := by decide +kernel
theorem dX13_let_15 : decode cX13_let 15 = .ok (.bipush (-2), 2) := by decide +kernel
theorem dX13_let_17 : decode cX13_let 17 = .ok (.ireturn, 1) := by decide +kernel
theorem dX13_let_18 : decode cX13_let 18 = .ok (.aload_n 0, 1) := by decide +kernel
theorem dX13_let_19 : decode cX13_let 19 = .ok (.getfield 307, 3) := by decide +kernel
theorem dX13_let_22 : decode cX13_let 22 = .ok (.bipush 10, 2) := by decide +kernel
theorem dX13_let_24 : decode cX13_let 24 = .ok (.iload_n 1, 1) := by decide +kernel
theorem dX13_let_25 : decode cX13_let 25 = .ok (.imul, 1) := by decide +kernel
theorem dX13_let_26 : decode cX13_let 26 = .ok (.iload_n 2, 1) := by decide +kernel
theorem dX13_let_27 : decode cX13_let 27 = .ok (.iadd, 1) := by decide +kernel
theorem dX13_let_28 : decode cX13_let 28 = .ok (.baload, 1) := by decide +kernel
theorem dX13_let_29 : decode cX13_let 29 = .ok (.istore 4, 2) := by decide +kernel
theorem dX13_let_31 : decode cX13_let 31 = .ok (.aload_n 0, 1) := by decide +kernel
theorem dX13_let_32 : decode cX13_let 32 = .ok (.getfield 307, 3) := by decide +kernel
theorem dX13_let_35 : decode cX13_let 35 = .ok (.bipush 10, 2) := by decide +kernel
theorem dX13_let_37 : decode cX13_let 37 = .ok (.iload_n 1, 1) := by decide +kernel
theorem dX13_let_38 : decode cX13_let 38 = .ok (.imul, 1) := by decide +kernel
theorem dX13_let_39 : decode cX13_let 39 = .ok (.iload_n 2, 1) := by decide +kernel
theorem dX13_let_40 : decode cX13_let 40 = .ok (.iadd, 1) := by decide +kernel
theorem dX13_let_41 : decode cX13_let 41 = .ok (.iload_n 3, 1) := by decide +kernel
theorem dX13_let_42 : decode cX13_let 42 = .ok (.bastore, 1) := by decide +kernel
theorem dX13_let_43 : decode cX13_let 43 = .ok (.iload 4, 2) := by decide +kernel
theorem dX13_let_45 : decode cX13_let 45 = .ok (.iload_n 3, 1) := by decide +kernel
theorem dX13_let_46 : decode cX13_let 46 = .ok (.if_icmp .ne 7, 3) := by decide +kernel
theorem dX13_let_49 : decode cX13_let 49 = .ok (.iconst 0, 1) := by decide +kernel
theorem dX13_let_50 : decode cX13_let 50 = .ok (.goto 4, 3) := by decide +kernel
theorem dX13_let_53 : decode cX13_let 53 = .ok (.iconst 1, 1) := by decide +kernel
theorem dX13_let_54 : decode cX13_let 54 = .ok (.ireturn, 1) := by decide +kernel
noncomputable def tX13_let_7 : qT (Int32 × qM) :=
  oC (.int (-2 : Int32)) (eI)
noncomputable def wX13_let_7 (k : qM → Option (Int32 × qM)) : qT (Int32 × qM) := fun lo st m => match lo, st with
  | [_, _, _, _, _], [] => k m
  | _, _ => none
set_option maxRecDepth 20000 in
theorem sX13_let_7 {C : qCx} {w : qWp} (h : qOk C w RX13 cX13_let 5 2 155 155) (hm : qMt C (some .int)) (hx : qNx C) : qSnd C w 5 155 (qQf C w 155 155 jI) qfin 155 15 (tX13_let_7) :=
  cB (pc := 15) h dX13_let_15 rfl (zI (pc := 17) h hm (Nat.le_refl _) dX13_let_17)
set_option maxRecDepth 20000 in
theorem lX13_let_7 (m : qM) : tX13_let_7 [none, none, none, none, none] [] m = fX13_let_7 m := rfl
theorem bX13_let_7 {C : qCx} {w : qWp} (h : qOk C w RX13 cX13_let 5 2 155 155) (hm : qMt C (some .int)) (hx : qNx C) : qSnd C w 5 155 (qQf C w 155 155 jI) qfin 155 15 (wX13_let_7 fX13_let_7) :=
  qSnd_of (fun lo st m x hr0 => by
    unfold wX13_let_7 at hr0
    split at hr0
    · exact ⟨_, (qsub_n (qsub_n (qsub_n (qsub_n (qsub_n qsub_nil))))), (lX13_let_7 _).trans hr0⟩
    · cases hr0) (sX13_let_7 h hm hx)
noncomputable def tX13_let_33 : qT (Int32 × qM) :=
  eI
noncomputable def wX13_let_33 (k : Int32 → qM → Option (Int32 × qM)) : qT (Int32 × qM) := fun lo st m => match lo, st with
  | [_, _, _, _, _], [.int s0] => k s0 m
  | _, _ => none
set_option maxRecDepth 20000 in
theorem sX13_let_33 {C : qCx} {w : qWp} (h : qOk C w RX13 cX13_let 5 2 155 155) (hm : qMt C (some .int)) (hx : qNx C) : qSnd C w 5 155 (qQf C w 155 155 jI) qfin 155 54 (tX13_let_33) :=
  zI (pc := 54) h hm (Nat.le_refl _) dX13_let_54
set_option maxRecDepth 20000 in
theorem lX13_let_33 (s0 : Int32) (m : qM) : tX13_let_33 [none, none, none, none, none] [(.int s0)] m = fX13_let_33 s0 m := rfl
theorem bX13_let_33 {C : qCx} {w : qWp} (h : qOk C w RX13 cX13_let 5 2 155 155) (hm : qMt C (some .int)) (hx : qNx C) : qSnd C w 5 155 (qQf C w 155 155 jI) qfin 155 54 (wX13_let_33 fX13_let_33) :=
  qSnd_of (fun lo st m x hr0 => by
    unfold wX13_let_33 at hr0
    split at hr0
    · exact ⟨_, (qsub_n (qsub_n (qsub_n (qsub_n (qsub_n qsub_nil))))), (lX13_let_33 _ _).trans hr0⟩
    · cases hr0) (sX13_let_33 h hm hx)
noncomputable def tX13_let_0 (j7 : qT (Int32 × qM)) (j33 : qT (Int32 × qM)) : qT (Int32 × qM) :=
  oLa 0 (oLi 1 (oCi GX13_isAsk 2 (oEq (j7) (oLi 2 (oCi GX13_isTeacher 1 (oEq (j7) (oLa 0 (oGf 98 74 154 (oC (.int (10 : Int32)) (oLi 1 (o2 (· * ·) (oLi 2 (o2 (· + ·) (oAi 154 400 (oSi 4 (oLa 0 (oGf 98 74 154 (oC (.int (10 : Int32)) (oLi 1 (o2 (· * ·) (oLi 2 (o2 (· + ·) (oLi 3 (oWz 154 400 (oLi 4 (oLi 3 (oCEq (oC (.int (0 : Int32)) (j33)) (oC (.int (1 : Int32)) (j33)))))))))))))))))))))))))))))
set_option maxRecDepth 20000 in
theorem sX13_let_0 {C : qCx} {w : qWp} (h : qOk C w RX13 cX13_let 5 2 155 155) (hm : qMt C (some .int)) (hx : qNx C) {j7 : qT (Int32 × qM)} {j33 : qT (Int32 × qM)} (k7 : qSnd C w 5 155 (qQf C w 155 155 jI) qfin 155 15 j7) (k33 : qSnd C w 5 155 (qQf C w 155 155 jI) qfin 155 54 j33) : qSnd C w 5 155 (qQf C w 155 155 jI) qfin 155 0 (tX13_let_0 j7 j33) :=
  cLa (pc := 0) h dX13_let_0 rfl (cLi (pc := 1) h dX13_let_1 rfl (kCi (pc := 2) h (kd_X13_372 h dX13_let_2) spX13_isAsk (by decide) (by decide) (by decide) (by decide) (jEq (pc := 5) h dX13_let_5 rfl (k7) (cLi (pc := 8) h dX13_let_8 rfl (kCi (pc := 9) h (kd_X13_340 h dX13_let_9) spX13_isTeacher (by decide) (by decide) (by decide) (by decide) (jNe (pc := 12) h dX13_let_12 rfl (cLa (pc := 18) h dX13_let_18 rfl (gGf (pc := 19) h dX13_let_19 ff_X13_307_98 (Nat.le_of_ble_eq_true rfl) (Nat.le_of_ble_eq_true rfl) rfl (cB (pc := 22) h dX13_let_22 rfl (cLi (pc := 24) h dX13_let_24 rfl (aMul (pc := 25) h dX13_let_25 (cLi (pc := 26) h dX13_let_26 rfl (aAdd (pc := 27) h dX13_let_27 (rAz (pc := 28) h dX13_let_28 rfl (Nat.le_of_ble_eq_true rfl) (Nat.le_of_ble_eq_true rfl) (cSI (pc := 29) h dX13_let_29 (cLa (pc := 31) h dX13_let_31 rfl (gGf (pc := 32) h dX13_let_32 ff_X13_307_98 (Nat.le_of_ble_eq_true rfl) (Nat.le_of_ble_eq_true rfl) rfl (cB (pc := 35) h dX13_let_35 rfl (cLi (pc := 37) h dX13_let_37 rfl (aMul (pc := 38) h dX13_let_38 (cLi (pc := 39) h dX13_let_39 rfl (aAdd (pc := 40) h dX13_let_40 (cLi (pc := 41) h dX13_let_41 rfl (rWz (pc := 42) h dX13_let_42 rfl (Nat.le_of_ble_eq_true rfl) (Nat.le_of_ble_eq_true rfl) (cLI (pc := 43) h dX13_let_43 (cLi (pc := 45) h dX13_let_45 rfl (jCNe (pc := 46) h dX13_let_46 rfl (cC (pc := 53) h dX13_let_53 rfl (k33)) (cC (pc := 49) h dX13_let_49 rfl (jGo (pc := 50) h dX13_let_50 rfl (k33)))))))))))))))))))))))) (k7)))))))
set_option maxRecDepth 20000 in
theorem lX13_let_0 (a1 : Int32) (a2 : Int32) (a3 : Int32) (m : qM) : tX13_let_0 (wX13_let_7 fX13_let_7) (wX13_let_33 fX13_let_33) [some (.ref 98), some (.int a1), some (.int a2), some (.int a3), none] [] m = fX13_let_0 a1 a2 a3 m := rfl
noncomputable def GX13_let : qG Int32 := fun av m => match av with
  | [.ref 98, .int a1, .int a2, .int a3] => fX13_let a1 a2 a3 m
  | _ => none
theorem spX13_let : qSpI yX13_let (.code yX13_let cX13_let 5 (some .int)) 2 qfin 155 155 1 GX13_let := by
  intro av m x m' hG
  unfold GX13_let at hG
  split at hG
  · rename_i a1 a2 a3
    rw [fX13_let_d] at hG
    exact ⟨qmeet (J := jI) (r := (x, m')) (av := [.ref 98, .int a1, .int a2, .int a3]) (by decide +kernel) (Nat.le_of_ble_eq_true rfl) (fun C w h hm hx hn => sX13_let_0 h hm hx (bX13_let_7 h hm hx) (bX13_let_33 h hm hx)) ((lX13_let_0 _ _ _ _).trans hG) (Nat.le_of_ble_eq_true rfl), Or.inl ⟨98, _, 13, _, _, rfl, by decide, rfl, qCk_13, rfl⟩⟩
  · cases hG
theorem dX13_mayRead_0 : decode cX13_mayRead 0 = .ok (.aload_n 0, 1) := by decide +kernel
theorem dX13_mayRead_1 : decode cX13_mayRead 1 = .ok (.getfield 218, 3) := by decide +kernel
theorem dX13_mayRead_4 : decode cX13_mayRead 4 = .ok (.iload_n 2, 1) := by decide +kernel
theorem dX13_mayRead_5 : decode cX13_mayRead 5 = .ok (.iaload, 1) := by decide +kernel
theorem dX13_mayRead_6 : decode cX13_mayRead 6 = .ok (.iload_n 1, 1) := by decide +kernel
theorem dX13_mayRead_7 : decode cX13_mayRead 7 = .ok (.if_icmp .eq 17, 3) := by decide +kernel
theorem dX13_mayRead_10 : decode cX13_mayRead 10 = .ok (.aload_n 0, 1) := by decide +kernel
theorem dX13_mayRead_11 : decode cX13_mayRead 11 = .ok (.getfield 307, 3) := by decide +kernel
theorem dX13_mayRead_14 : decode cX13_mayRead 14 = .ok (.bipush 10, 2) := by decide +kernel
theorem dX13_mayRead_16 : decode cX13_mayRead 16 = .ok (.iload_n 2, 1) := by decide +kernel
theorem dX13_mayRead_17 : decode cX13_mayRead 17 = .ok (.imul, 1) := by decide +kernel
theorem dX13_mayRead_18 : decode cX13_mayRead 18 = .ok (.iload_n 1, 1) := by decide +kernel
theorem dX13_mayRead_19 : decode cX13_mayRead 19 = .ok (.iadd, 1) := by decide +kernel
theorem dX13_mayRead_20 : decode cX13_mayRead 20 = .ok (.baload, 1) := by decide +kernel
theorem dX13_mayRead_21 : decode cX13_mayRead 21 = .ok (.ifCond .eq 7, 3) := by decide +kernel
theorem dX13_mayRead_24 : decode cX13_mayRead 24 = .ok (.iconst 1, 1) := by decide +kernel
theorem dX13_mayRead_25 : decode cX13_mayRead 25 = .ok (.goto 4, 3) := by decide +kernel
theorem dX13_mayRead_28 : decode cX13_mayRead 28 = .ok (.iconst 0, 1) := by decide +kernel
theorem dX13_mayRead_29 : decode cX13_mayRead 29 = .ok (.ireturn, 1) := by decide +kernel
noncomputable def tX13_mayRead_18 : qT (Int32 × qM) :=
  eZ
noncomputable def wX13_mayRead_18 (k : Int32 → qM → Option (Int32 × qM)) : qT (Int32 × qM) := fun lo st m => match lo, st with
  | [_, _, _], [.int s0] => k s0 m
  | _, _ => none
set_option maxRecDepth 20000 in
theorem sX13_mayRead_18 {C : qCx} {w : qWp} (h : qOk C w RX13 cX13_mayRead 3 0 155 155) (hm : qMt C (some .boolean)) (hx : qNx C) : qSnd C w 3 155 (qQf C w 155 155 jI) qfin 155 29 (tX13_mayRead_18) :=
  zZ (pc := 29) h hm (Nat.le_refl _) dX13_mayRead_29
set_option maxRecDepth 20000 in
theorem lX13_mayRead_18 (s0 : Int32) (m : qM) : tX13_mayRead_18 [none, none, none] [(.int s0)] m = fX13_mayRead_18 s0 m := rfl
theorem bX13_mayRead_18 {C : qCx} {w : qWp} (h : qOk C w RX13 cX13_mayRead 3 0 155 155) (hm : qMt C (some .boolean)) (hx : qNx C) : qSnd C w 3 155 (qQf C w 155 155 jI) qfin 155 29 (wX13_mayRead_18 fX13_mayRead_18) :=
  qSnd_of (fun lo st m x hr0 => by
    unfold wX13_mayRead_18 at hr0
    split at hr0
    · exact ⟨_, (qsub_n (qsub_n (qsub_n qsub_nil))), (lX13_mayRead_18 _ _).trans hr0⟩
    · cases hr0) (sX13_mayRead_18 h hm hx)
noncomputable def tX13_mayRead_15 (j18 : qT (Int32 × qM)) : qT (Int32 × qM) :=
  oC (.int (1 : Int32)) (j18)
noncomputable def wX13_mayRead_15 (k : qM → Option (Int32 × qM)) : qT (Int32 × qM) := fun lo st m => match lo, st with
  | [_, _, _], [] => k m
  | _, _ => none
set_option maxRecDepth 20000 in
theorem sX13_mayRead_15 {C : qCx} {w : qWp} (h : qOk C w RX13 cX13_mayRead 3 0 155 155) (hm : qMt C (some .boolean)) (hx : qNx C) {j18 : qT (Int32 × qM)} (k18 : qSnd C w 3 155 (qQf C w 155 155 jI) qfin 155 29 j18) : qSnd C w 3 155 (qQf C w 155 155 jI) qfin 155 24 (tX13_mayRead_15 j18) :=
  cC (pc := 24) h dX13_mayRead_24 rfl (jGo (pc := 25) h dX13_mayRead_25 rfl (k18))
set_option maxRecDepth 20000 in
theorem lX13_mayRead_15 (m : qM) : tX13_mayRead_15 (wX13_mayRead_18 fX13_mayRead_18) [none, none, none] [] m = fX13_mayRead_15 m := rfl
theorem bX13_mayRead_15 {C : qCx} {w : qWp} (h : qOk C w RX13 cX13_mayRead 3 0 155 155) (hm : qMt C (some .boolean)) (hx : qNx C) : qSnd C w 3 155 (qQf C w 155 155 jI) qfin 155 24 (wX13_mayRead_15 fX13_mayRead_15) :=
  qSnd_of (fun lo st m x hr0 => by
    unfold wX13_mayRead_15 at hr0
    split at hr0
    · exact ⟨_, (qsub_n (qsub_n (qsub_n qsub_nil))), (lX13_mayRead_15 _).trans hr0⟩
    · cases hr0) (sX13_mayRead_15 h hm hx (bX13_mayRead_18 h hm hx))
noncomputable def tX13_mayRead_0 (j15 : qT (Int32 × qM)) (j18 : qT (Int32 × qM)) : qT (Int32 × qM) :=
  oLa 0 (oGf 98 35 124 (oLi 2 (oAi 124 40 (oLi 1 (oCEq (j15) (oLa 0 (oGf 98 74 154 (oC (.int (10 : Int32)) (oLi 2 (o2 (· * ·) (oLi 1 (o2 (· + ·) (oAi 154 400 (oEq (oC (.int (0 : Int32)) (j18)) (j15)))))))))))))))
set_option maxRecDepth 20000 in
theorem sX13_mayRead_0 {C : qCx} {w : qWp} (h : qOk C w RX13 cX13_mayRead 3 0 155 155) (hm : qMt C (some .boolean)) (hx : qNx C) {j15 : qT (Int32 × qM)} {j18 : qT (Int32 × qM)} (k15 : qSnd C w 3 155 (qQf C w 155 155 jI) qfin 155 24 j15) (k18 : qSnd C w 3 155 (qQf C w 155 155 jI) qfin 155 29 j18) : qSnd C w 3 155 (qQf C w 155 155 jI) qfin 155 0 (tX13_mayRead_0 j15 j18) :=
  cLa (pc := 0) h dX13_mayRead_0 rfl (gGf (pc := 1) h dX13_mayRead_1 ff_X13_218_98 (Nat.le_of_ble_eq_true rfl) (Nat.le_of_ble_eq_true rfl) rfl (cLi (pc := 4) h dX13_mayRead_4 rfl (rAi (pc := 5) h dX13_mayRead_5 rfl (Nat.le_of_ble_eq_true rfl) (Nat.le_of_ble_eq_true rfl) (cLi (pc := 6) h dX13_mayRead_6 rfl (jCEq (pc := 7) h dX13_mayRead_7 rfl (k15) (cLa (pc := 10) h dX13_mayRead_10 rfl (gGf (pc := 11) h dX13_mayRead_11 ff_X13_307_98 (Nat.le_of_ble_eq_true rfl) (Nat.le_of_ble_eq_true rfl) rfl (cB (pc := 14) h dX13_mayRead_14 rfl (cLi (pc := 16) h dX13_mayRead_16 rfl (aMul (pc := 17) h dX13_mayRead_17 (cLi (pc := 18) h dX13_mayRead_18 rfl (aAdd (pc := 19) h dX13_mayRead_19 (rAz (pc := 20) h dX13_mayRead_20 rfl (Nat.le_of_ble_eq_true rfl) (Nat.le_of_ble_eq_true rfl) (jEq (pc := 21) h dX13_mayRead_21 rfl (cC (pc := 28) h dX13_mayRead_28 rfl (k18)) (k15)))))))))))))))
set_option maxRecDepth 20000 in
theorem lX13_mayRead_0 (a1 : Int32) (a2 : Int32) (m : qM) : tX13_mayRead_0 (wX13_mayRead_15 fX13_mayRead_15) (wX13_mayRead_18 fX13_mayRead_18) [some (.ref 98), some (.int a1), some (.int a2)] [] m = fX13_mayRead_0 a1 a2 m := rfl
noncomputable def GX13_mayRead : qG Int32 := fun av m => match av with
  | [.ref 98, .int a1, .int a2] => fX13_mayRead a1 a2 m
  | _ => none
theorem spX13_mayRead : qSpI yX13_mayRead (.code yX13_mayRead cX13_mayRead 3 (some .boolean)) 0 qfin 155 155 1 GX13_mayRead := by
  intro av m x m' hG
  unfold GX13_mayRead at hG
  split at hG
  · rename_i a1 a2
    rw [fX13_mayRead_d] at hG
    exact ⟨qmeet (J := jI) (r := (x, m')) (av := [.ref 98, .int a1, .int a2]) (by decide +kernel) (Nat.le_of_ble_eq_true rfl) (fun C w h hm hx hn => sX13_mayRead_0 h hm hx (bX13_mayRead_15 h hm hx) (bX13_mayRead_18 h hm hx)) ((lX13_mayRead_0 _ _ _).trans hG) (Nat.le_of_ble_eq_true rfl), Or.inl ⟨98, _, 13, _, _, rfl, by decide, rfl, qCk_13, rfl⟩⟩
  · cases hG
theorem im_X13_mayRead : Jvm.Cond.instanceMethod yX13_mayRead ∈ qTw := qm9 (List.mem_of_getElem? (i := 138) (by decide +kernel)) (by decide +kernel)
theorem se_X13_mayRead : Jvm.Cond.selects yX13_mayRead.cls yX13_mayRead yX13_mayRead ∈ qTw := List.mem_filter.mpr ⟨List.mem_append_left _ (List.mem_of_getElem? (i := 85) (by decide +kernel)), rfl⟩
theorem co_X13_mayRead : Jvm.Cond.code yX13_mayRead cX13_mayRead 3 (some .boolean) ∈ qTw := qm9 (List.mem_of_getElem? (i := 139) (by decide +kernel)) (by decide +kernel)
theorem yk_X13_mayRead : qYk yX13_mayRead 2 := ⟨⟨by decide +kernel, by decide +kernel⟩, by decide +kernel⟩
theorem ml_X13_513 : Jvm.Cond.methodLink RX13 513 yX13_mayRead ∈ qTw := qm9 (List.mem_of_getElem? (i := 136) (by decide +kernel)) (by decide +kernel)
theorem kd_X13_513 {C : qCx} {w : qWp} {cc : ByteArray} {nL dp n0 n1 pc : Nat} (h : qOk C w RX13 cc nL dp n0 n1) (d : decode cc pc = .ok (.invokevirtual 513, 3)) : qCallOk C w nL dp n0 n1 pc 3 1 yX13_mayRead (.code yX13_mayRead cX13_mayRead 3 (some .boolean)) := kindV h d ml_X13_513 im_X13_mayRead se_X13_mayRead in_ParentEveModel co_X13_mayRead yk_X13_mayRead (by decide)
theorem dX13_read_0 : decode cX13_read 0 = .ok (.iload_n 1, 1) := by decide +kernel
theorem dX13_read_1 : decode cX13_read 1 = .ok (.invokestatic 340, 3) := by decide +kernel
theorem dX13_read_4 : decode cX13_read 4 = .ok (.ifCond .eq 11, 3) := by decide +kernel
theorem dX13_read_7 : decode cX13_read 7 = .ok (.aload_n 0, 1) := by decide +kernel
theorem dX13_read_8 : decode cX13_read 8 = .ok (.iload_n 2, 1) := by decide +kernel
theorem dX13_read_9 : decode cX13_read 9 = .ok (.invokevirtual 372, 3) := by decide +kernel
theorem dX13_read_12 : decode cX13_read 12 = .ok (.ifCond .ne 6, 3) := by decide +kernel
theorem dX13_read_15 : decode cX13_read 15 = .ok (.bipush (-2), 2) := by decide +kernel
theorem dX13_read_17 : decode cX13_read 17 = .ok (.ireturn, 1) := by decide +kernel
theorem dX13_read_18 : decode cX13_read 18 = .ok (.aload_n 0, 1) := by decide +kernel
theorem dX13_read_19 : decode cX13_read 19 = .ok (.iload_n 1, 1) := by decide +kernel
theorem dX13_read_20 : decode cX13_read 20 = .ok (.iload_n 2, 1) := by decide +kernel
theorem dX13_read_21 : decode cX13_read 21 = .ok (.invokevirtual 513, 3) := by decide +kernel
theorem dX13_read_24 : decode cX13_read 24 = .ok (.ifCond .eq 35, 3) := by decide +kernel
theorem dX13_read_27 : decode cX13_read 27 = .ok (.iload_n 3, 1) := by decide +kernel
theorem dX13_read_28 : decode cX13_read 28 = .ok (.i2l, 1) := by decide +kernel
theorem dX13_read_29 : decode cX13_read 29 = .ok (.lconst 0, 1) := by decide +kernel
theorem dX13_read_30 : decode cX13_read 30 = .ok (.aload_n 0, 1) := by decide +kernel
theorem dX13_read_31 : decode cX13_read 31 = .ok (.getfield 298, 3) := by decide +kernel
theorem dX13_read_34 : decode cX13_read 34 = .ok (.iload_n 2, 1) := by decide +kernel
theorem dX13_read_35 : decode cX13_read 35 = .ok (.iaload, 1) := by decide +kernel
theorem dX13_read_36 : decode cX13_read 36 = .ok (.i2l, 1) := by decide +kernel
theorem dX13_read_37 : decode cX13_read 37 = .ok (.lconst 1, 1) := by decide +kernel
theorem dX13_read_38 : decode cX13_read 38 = .ok (.lsub, 1) := by decide +kernel
theorem dX13_read_39 : decode cX13_read 39 = .ok (.invokestatic 66, 3) := by decide +kernel
theorem dX13_read_42 : decode cX13_read 42 = .ok (.ifCond .eq 17, 3) := by decide +kernel
theorem dX13_read_45 : decode cX13_read 45 = .ok (.aload_n 0, 1) := by decide +kernel
theorem dX13_read_46 : decode cX13_read 46 = .ok (.getfield 304, 3) := by decide +kernel
theorem dX13_read_49 : decode cX13_read 49 = .ok (.bipush 60, 2) := by decide +kernel
theorem dX13_read_51 : decode cX13_read 51 = .ok (.iload_n 2, 1) := by decide +kernel
theorem dX13_read_52 : decode cX13_read 52 = .ok (.imul, 1) := by decide +kernel
theorem dX13_read_53 : decode cX13_read 53 = .ok (.iload_n 3, 1) := by decide +kernel
theorem dX13_read_54 : decode cX13_read 54 = .ok (.iadd, 1) := by decide +kernel
theorem dX13_read_55 : decode cX13_read 55 = .ok (.baload, 1) := by decide +kernel
theorem dX13_read_56 : decode cX13_read 56 = .ok (.goto 4, 3) := by decide +kernel
theorem dX13_read_59 : decode cX13_read 59 = .ok (.iconst (-1), 1) := by decide +kernel
theorem dX13_read_60 : decode cX13_read 60 = .ok (.ireturn, 1) := by decide +kernel
noncomputable def tX13_read_7 : qT (Int32 × qM) :=
  oC (.int (-2 : Int32)) (eI)
noncomputable def wX13_read_7 (k : qM → Option (Int32 × qM)) : qT (Int32 × qM) := fun lo st m => match lo, st with
  | [_, _, _, _], [] => k m
  | _, _ => none
set_option maxRecDepth 20000 in
theorem sX13_read_7 {C : qCx} {w : qWp} (h : qOk C w RX13 cX13_read 4 2 155 155) (hm : qMt C (some .int)) (hx : qNx C) : qSnd C w 4 155 (qQf C w 155 155 jI) qfin 155 15 (tX13_read_7) :=
  cB (pc := 15) h dX13_read_15 rfl (zI (pc := 17) h hm (Nat.le_refl _) dX13_read_17)
set_option maxRecDepth 20000 in
theorem lX13_read_7 (m : qM) : tX13_read_7 [none, none, none, none] [] m = fX13_read_7 m := rfl
theorem bX13_read_7 {C : qCx} {w : qWp} (h : qOk C w RX13 cX13_read 4 2 155 155) (hm : qMt C (some .int)) (hx : qNx C) : qSnd C w 4 155 (qQf C w 155 155 jI) qfin 155 15 (wX13_read_7 fX13_read_7) :=
  qSnd_of (fun lo st m x hr0 => by
    unfold wX13_read_7 at hr0
    split at hr0
    · exact ⟨_, (qsub_n (qsub_n (qsub_n (qsub_n qsub_nil)))), (lX13_read_7 _).trans hr0⟩
    · cases hr0) (sX13_read_7 h hm hx)
noncomputable def tX13_read_36 : qT (Int32 × qM) :=
  eI
noncomputable def wX13_read_36 (k : Int32 → qM → Option (Int32 × qM)) : qT (Int32 × qM) := fun lo st m => match lo, st with
  | [_, _, _, _], [.int s0] => k s0 m
  | _, _ => none
set_option maxRecDepth 20000 in
theorem sX13_read_36 {C : qCx} {w : qWp} (h : qOk C w RX13 cX13_read 4 2 155 155) (hm : qMt C (some .int)) (hx : qNx C) : qSnd C w 4 155 (qQf C w 155 155 jI) qfin 155 60 (tX13_read_36) :=
  zI (pc := 60) h hm (Nat.le_refl _) dX13_read_60
set_option maxRecDepth 20000 in
theorem lX13_read_36 (s0 : Int32) (m : qM) : tX13_read_36 [none, none, none, none] [(.int s0)] m = fX13_read_36 s0 m := rfl
theorem bX13_read_36 {C : qCx} {w : qWp} (h : qOk C w RX13 cX13_read 4 2 155 155) (hm : qMt C (some .int)) (hx : qNx C) : qSnd C w 4 155 (qQf C w 155 155 jI) qfin 155 60 (wX13_read_36 fX13_read_36) :=
  qSnd_of (fun lo st m x hr0 => by
    unfold wX13_read_36 at hr0
    split at hr0
    · exact ⟨_, (qsub_n (qsub_n (qsub_n (qsub_n qsub_nil)))), (lX13_read_36 _ _).trans hr0⟩
    · cases hr0) (sX13_read_36 h hm hx)
noncomputable def tX13_read_35 (j36 : qT (Int32 × qM)) : qT (Int32 × qM) :=
  oC (.int (-1 : Int32)) (j36)
noncomputable def wX13_read_35 (k : qM → Option (Int32 × qM)) : qT (Int32 × qM) := fun lo st m => match lo, st with
  | [_, _, _, _], [] => k m
  | _, _ => none
set_option maxRecDepth 20000 in
theorem sX13_read_35 {C : qCx} {w : qWp} (h : qOk C w RX13 cX13_read 4 2 155 155) (hm : qMt C (some .int)) (hx : qNx C) {j36 : qT (Int32 × qM)} (k36 : qSnd C w 4 155 (qQf C w 155 155 jI) qfin 155 60 j36) : qSnd C w 4 155 (qQf C w 155 155 jI) qfin 155 59 (tX13_read_35 j36) :=
  cC (pc := 59) h dX13_read_59 rfl (k36)
set_option maxRecDepth 20000 in
theorem lX13_read_35 (m : qM) : tX13_read_35 (wX13_read_36 fX13_read_36) [none, none, none, none] [] m = fX13_read_35 m := rfl
theorem bX13_read_35 {C : qCx} {w : qWp} (h : qOk C w RX13 cX13_read 4 2 155 155) (hm : qMt C (some .int)) (hx : qNx C) : qSnd C w 4 155 (qQf C w 155 155 jI) qfin 155 59 (wX13_read_35 fX13_read_35) :=
  qSnd_of (fun lo st m x hr0 => by
    unfold wX13_read_35 at hr0
    split at hr0
    · exact ⟨_, (qsub_n (qsub_n (qsub_n (qsub_n qsub_nil)))), (lX13_read_35 _).trans hr0⟩
    · cases hr0) (sX13_read_35 h hm hx (bX13_read_36 h hm hx))
noncomputable def tX13_read_0 (j7 : qT (Int32 × qM)) (j35 : qT (Int32 × qM)) (j36 : qT (Int32 × qM)) : qT (Int32 × qM) :=
  oLi 1 (oCi GX13_isTeacher 1 (oEq (j7) (oLa 0 (oLi 2 (oCi GX13_isAsk 2 (oEq (j7) (oLa 0 (oLi 1 (oLi 2 (oCi GX13_mayRead 3 (oEq (j35) (oLi 3 (oI2l (oC (.long (0 : Int64)) (oLa 0 (oGf 98 71 151 (oLi 2 (oAi 151 40 (oI2l (oC (.long (1 : Int64)) (oJJ (· - ·) (oCi GX13_in 3 (oEq (j35) (oLa 0 (oGf 98 73 153 (oC (.int (60 : Int32)) (oLi 2 (o2 (· * ·) (oLi 3 (o2 (· + ·) (oAi 153 2400 (j36))))))))))))))))))))))))))))))))
set_option maxRecDepth 20000 in
theorem sX13_read_0 {C : qCx} {w : qWp} (h : qOk C w RX13 cX13_read 4 2 155 155) (hm : qMt C (some .int)) (hx : qNx C) {j7 : qT (Int32 × qM)} {j35 : qT (Int32 × qM)} {j36 : qT (Int32 × qM)} (k7 : qSnd C w 4 155 (qQf C w 155 155 jI) qfin 155 15 j7) (k35 : qSnd C w 4 155 (qQf C w 155 155 jI) qfin 155 59 j35) (k36 : qSnd C w 4 155 (qQf C w 155 155 jI) qfin 155 60 j36) : qSnd C w 4 155 (qQf C w 155 155 jI) qfin 155 0 (tX13_read_0 j7 j35 j36) :=
  cLi (pc := 0) h dX13_read_0 rfl (kCi (pc := 1) h (kd_X13_340 h dX13_read_1) spX13_isTeacher (by decide) (by decide) (by decide) (by decide) (jEq (pc := 4) h dX13_read_4 rfl (k7) (cLa (pc := 7) h dX13_read_7 rfl (cLi (pc := 8) h dX13_read_8 rfl (kCi (pc := 9) h (kd_X13_372 h dX13_read_9) spX13_isAsk (by decide) (by decide) (by decide) (by decide) (jNe (pc := 12) h dX13_read_12 rfl (cLa (pc := 18) h dX13_read_18 rfl (cLi (pc := 19) h dX13_read_19 rfl (cLi (pc := 20) h dX13_read_20 rfl (kCi (pc := 21) h (kd_X13_513 h dX13_read_21) spX13_mayRead (by decide) (by decide) (by decide) (by decide) (jEq (pc := 24) h dX13_read_24 rfl (k35) (cLi (pc := 27) h dX13_read_27 rfl (aI2l (pc := 28) h dX13_read_28 (cJ (pc := 29) h dX13_read_29 rfl (cLa (pc := 30) h dX13_read_30 rfl (gGf (pc := 31) h dX13_read_31 ff_X13_298_98 (Nat.le_of_ble_eq_true rfl) (Nat.le_of_ble_eq_true rfl) rfl (cLi (pc := 34) h dX13_read_34 rfl (rAi (pc := 35) h dX13_read_35 rfl (Nat.le_of_ble_eq_true rfl) (Nat.le_of_ble_eq_true rfl) (aI2l (pc := 36) h dX13_read_36 (cJ (pc := 37) h dX13_read_37 rfl (aLsub (pc := 38) h dX13_read_38 (kCi (pc := 39) h (kd_X13_66 h dX13_read_39) spX13_in (by decide) (by decide) (by decide) (by decide) (jEq (pc := 42) h dX13_read_42 rfl (k35) (cLa (pc := 45) h dX13_read_45 rfl (gGf (pc := 46) h dX13_read_46 ff_X13_304_98 (Nat.le_of_ble_eq_true rfl) (Nat.le_of_ble_eq_true rfl) rfl (cB (pc := 49) h dX13_read_49 rfl (cLi (pc := 51) h dX13_read_51 rfl (aMul (pc := 52) h dX13_read_52 (cLi (pc := 53) h dX13_read_53 rfl (aAdd (pc := 54) h dX13_read_54 (rAb (pc := 55) h dX13_read_55 rfl (Nat.le_of_ble_eq_true rfl) (Nat.le_of_ble_eq_true rfl) (jGo (pc := 56) h dX13_read_56 rfl (k36))))))))))))))))))))))))))) (k7)))))))
set_option maxRecDepth 20000 in
theorem lX13_read_0 (a1 : Int32) (a2 : Int32) (a3 : Int32) (m : qM) : tX13_read_0 (wX13_read_7 fX13_read_7) (wX13_read_35 fX13_read_35) (wX13_read_36 fX13_read_36) [some (.ref 98), some (.int a1), some (.int a2), some (.int a3)] [] m = fX13_read_0 a1 a2 a3 m := rfl
noncomputable def GX13_read : qG Int32 := fun av m => match av with
  | [.ref 98, .int a1, .int a2, .int a3] => fX13_read a1 a2 a3 m
  | _ => none
theorem spX13_read : qSpI yX13_read (.code yX13_read cX13_read 4 (some .int)) 2 qfin 155 155 1 GX13_read := by
  intro av m x m' hG
  unfold GX13_read at hG
  split at hG
  · rename_i a1 a2 a3
    rw [fX13_read_d] at hG
    exact ⟨qmeet (J := jI) (r := (x, m')) (av := [.ref 98, .int a1, .int a2, .int a3]) (by decide +kernel) (Nat.le_of_ble_eq_true rfl) (fun C w h hm hx hn => sX13_read_0 h hm hx (bX13_read_7 h hm hx) (bX13_read_35 h hm hx) (bX13_read_36 h hm hx)) ((lX13_read_0 _ _ _ _).trans hG) (Nat.le_of_ble_eq_true rfl), Or.inl ⟨98, _, 13, _, _, rfl, by decide, rfl, qCk_13, rfl⟩⟩
  · cases hG
theorem dX13_small_0 : decode cX13_small 0 = .ok (.iload_n 0, 1) := by decide +kernel
theorem dX13_small_1 : decode cX13_small 1 = .ok (.bipush 65, 2) := by decide +kernel
theorem dX13_small_3 : decode cX13_small 3 = .ok (.if_icmp .lt 16, 3) := by decide +kernel
theorem dX13_small_6 : decode cX13_small 6 = .ok (.iload_n 0, 1) := by decide +kernel
theorem dX13_small_7 : decode cX13_small 7 = .ok (.bipush 90, 2) := by decide +kernel
theorem dX13_small_9 : decode cX13_small 9 = .ok (.if_icmp .gt 10, 3) := by decide +kernel
theorem dX13_small_12 : decode cX13_small 12 = .ok (.iload_n 0, 1) := by decide +kernel
theorem dX13_small_13 : decode cX13_small 13 = .ok (.bipush 32, 2) := by decide +kernel
theorem dX13_small_15 : decode cX13_small 15 = .ok (.iadd, 1) := by decide +kernel
theorem dX13_small_16 : decode cX13_small 16 = .ok (.goto 4, 3) := by decide +kernel
theorem dX13_small_19 : decode cX13_small 19 = .ok (.iload_n 0, 1) := by decide +kernel
theorem dX13_small_20 : decode cX13_small 20 = .ok (.ireturn, 1) := by decide +kernel
noncomputable def tX13_small_11 : qT (Int32 × qM) :=
  eI
noncomputable def wX13_small_11 (k : Int32 → qM → Option (Int32 × qM)) : qT (Int32 × qM) := fun lo st m => match lo, st with
  | [_], [.int s0] => k s0 m
  | _, _ => none
set_option maxRecDepth 20000 in
theorem sX13_small_11 {C : qCx} {w : qWp} (h : qOk C w RX13 cX13_small 1 0 155 155) (hm : qMt C (some .int)) (hx : qNx C) : qSnd C w 1 155 (qQf C w 155 155 jI) qfin 155 20 (tX13_small_11) :=
  zI (pc := 20) h hm (Nat.le_refl _) dX13_small_20
set_option maxRecDepth 20000 in
theorem lX13_small_11 (s0 : Int32) (m : qM) : tX13_small_11 [none] [(.int s0)] m = fX13_small_11 s0 m := rfl
theorem bX13_small_11 {C : qCx} {w : qWp} (h : qOk C w RX13 cX13_small 1 0 155 155) (hm : qMt C (some .int)) (hx : qNx C) : qSnd C w 1 155 (qQf C w 155 155 jI) qfin 155 20 (wX13_small_11 fX13_small_11) :=
  qSnd_of (fun lo st m x hr0 => by
    unfold wX13_small_11 at hr0
    split at hr0
    · exact ⟨_, (qsub_n qsub_nil), (lX13_small_11 _ _).trans hr0⟩
    · cases hr0) (sX13_small_11 h hm hx)
noncomputable def tX13_small_10 (j11 : qT (Int32 × qM)) : qT (Int32 × qM) :=
  oLi 0 (j11)
noncomputable def wX13_small_10 (k : Int32 → qM → Option (Int32 × qM)) : qT (Int32 × qM) := fun lo st m => match lo, st with
  | [some (.int a0)], [] => k a0 m
  | _, _ => none
set_option maxRecDepth 20000 in
theorem sX13_small_10 {C : qCx} {w : qWp} (h : qOk C w RX13 cX13_small 1 0 155 155) (hm : qMt C (some .int)) (hx : qNx C) {j11 : qT (Int32 × qM)} (k11 : qSnd C w 1 155 (qQf C w 155 155 jI) qfin 155 20 j11) : qSnd C w 1 155 (qQf C w 155 155 jI) qfin 155 19 (tX13_small_10 j11) :=
  cLi (pc := 19) h dX13_small_19 rfl (k11)
set_option maxRecDepth 20000 in
theorem lX13_small_10 (a0 : Int32) (m : qM) : tX13_small_10 (wX13_small_11 fX13_small_11) [some (.int a0)] [] m = fX13_small_10 a0 m := rfl
theorem bX13_small_10 {C : qCx} {w : qWp} (h : qOk C w RX13 cX13_small 1 0 155 155) (hm : qMt C (some .int)) (hx : qNx C) : qSnd C w 1 155 (qQf C w 155 155 jI) qfin 155 19 (wX13_small_10 fX13_small_10) :=
  qSnd_of (fun lo st m x hr0 => by
    unfold wX13_small_10 at hr0
    split at hr0
    · exact ⟨_, (qsub_e qsub_nil), (lX13_small_10 _ _).trans hr0⟩
    · cases hr0) (sX13_small_10 h hm hx (bX13_small_11 h hm hx))
noncomputable def tX13_small_0 (j10 : qT (Int32 × qM)) (j11 : qT (Int32 × qM)) : qT (Int32 × qM) :=
  oLi 0 (oC (.int (65 : Int32)) (oCLt (j10) (oLi 0 (oC (.int (90 : Int32)) (oCGt (j10) (oLi 0 (oC (.int (32 : Int32)) (o2 (· + ·) (j11)))))))))
set_option maxRecDepth 20000 in
theorem sX13_small_0 {C : qCx} {w : qWp} (h : qOk C w RX13 cX13_small 1 0 155 155) (hm : qMt C (some .int)) (hx : qNx C) {j10 : qT (Int32 × qM)} {j11 : qT (Int32 × qM)} (k10 : qSnd C w 1 155 (qQf C w 155 155 jI) qfin 155 19 j10) (k11 : qSnd C w 1 155 (qQf C w 155 155 jI) qfin 155 20 j11) : qSnd C w 1 155 (qQf C w 155 155 jI) qfin 155 0 (tX13_small_0 j10 j11) :=
  cLi (pc := 0) h dX13_small_0 rfl (cB (pc := 1) h dX13_small_1 rfl (jCLt (pc := 3) h dX13_small_3 rfl (k10) (cLi (pc := 6) h dX13_small_6 rfl (cB (pc := 7) h dX13_small_7 rfl (jCGt (pc := 9) h dX13_small_9 rfl (k10) (cLi (pc := 12) h dX13_small_12 rfl (cB (pc := 13) h dX13_small_13 rfl (aAdd (pc := 15) h dX13_small_15 (jGo (pc := 16) h dX13_small_16 rfl (k11))))))))))
set_option maxRecDepth 20000 in
theorem lX13_small_0 (a0 : Int32) (m : qM) : tX13_small_0 (wX13_small_10 fX13_small_10) (wX13_small_11 fX13_small_11) [some (.int a0)] [] m = fX13_small_0 a0 m := rfl
noncomputable def GX13_small : qG Int32 := fun av m => match av with
  | [.int a0] => fX13_small a0 m
  | _ => none
theorem spX13_small : qSpI yX13_small (.code yX13_small cX13_small 1 (some .int)) 0 qfin 155 155 0 GX13_small := by
  intro av m x m' hG
  unfold GX13_small at hG
  split at hG
  · rename_i a0
    rw [fX13_small_d] at hG
    exact ⟨qmeet (J := jI) (r := (x, m')) (av := [.int a0]) (by decide +kernel) (Nat.le_of_ble_eq_true rfl) (fun C w h hm hx hn => sX13_small_0 h hm hx (bX13_small_10 h hm hx) (bX13_small_11 h hm hx)) ((lX13_small_0 _ _).trans hG) (Nat.le_of_ble_eq_true rfl), trivial⟩
  · cases hG
theorem im_X13_small : Jvm.Cond.static yX13_small ∈ qTw := qm9 (List.mem_of_getElem? (i := 146) (by decide +kernel)) (by decide +kernel)
theorem co_X13_small : Jvm.Cond.code yX13_small cX13_small 1 (some .int) ∈ qTw := qm9 (List.mem_of_getElem? (i := 147) (by decide +kernel)) (by decide +kernel)
theorem yk_X13_small : qYk yX13_small 1 := ⟨⟨by decide +kernel, by decide +kernel⟩, by decide +kernel⟩
theorem ml_X13_516 : Jvm.Cond.methodLink RX13 516 yX13_small ∈ qTw := qm9 (List.mem_of_getElem? (i := 145) (by decide +kernel)) (by decide +kernel)
theorem kd_X13_516 {C : qCx} {w : qWp} {cc : ByteArray} {nL dp n0 n1 pc : Nat} (h : qOk C w RX13 cc nL dp n0 n1) (d : decode cc pc = .ok (.invokestatic 516, 3)) : qCallOk C w nL dp n0 n1 pc 1 0 yX13_small (.code yX13_small cX13_small 1 (some .int)) := kindS h d ml_X13_516 im_X13_small in_ParentEveModel co_X13_small yk_X13_small (by decide)
theorem dX13_isLetterAt_0 : decode cX13_isLetterAt 0 = .ok (.iload_n 2, 1) := by decide +kernel
theorem dX13_isLetterAt_1 : decode cX13_isLetterAt 1 = .ok (.i2l, 1) := by decide +kernel
theorem dX13_isLetterAt_2 : decode cX13_isLetterAt 2 = .ok (.lconst 0, 1) := by decide +kernel
theorem dX13_isLetterAt_3 : decode cX13_isLetterAt 3 = .ok (.aload_n 0, 1) := by decide +kernel
theorem dX13_isLetterAt_4 : decode cX13_isLetterAt 4 = .ok (.getfield 298, 3) := by decide +kernel
theorem dX13_isLetterAt_7 : decode cX13_isLetterAt 7 = .ok (.iload_n 1, 1) := by decide +kernel
theorem dX13_isLetterAt_8 : decode cX13_isLetterAt 8 = .ok (.iaload, 1) := by decide +kernel
theorem dX13_isLetterAt_9 : decode cX13_isLetterAt 9 = .ok (.i2l, 1) := by decide +kernel
theorem dX13_isLetterAt_10 : decode cX13_isLetterAt 10 = .ok (.lconst 1, 1) := by decide +kernel
theorem dX13_isLetterAt_11 : decode cX13_isLetterAt 11 = .ok (.lsub, 1) := by decide +kernel
theorem dX13_isLetterAt_12 : decode cX13_isLetterAt 12 = .ok (.invokestatic 66, 3) := by decide +kernel
theorem dX13_isLetterAt_15 : decode cX13_isLetterAt 15 = .ok (.ifCond .eq 27, 3) := by decide +kernel
theorem dX13_isLetterAt_18 : decode cX13_isLetterAt 18 = .ok (.aload_n 0, 1) := by decide +kernel
theorem dX13_isLetterAt_19 : decode cX13_isLetterAt 19 = .ok (.getfield 304, 3) := by decide +kernel
theorem dX13_isLetterAt_22 : decode cX13_isLetterAt 22 = .ok (.bipush 60, 2) := by decide +kernel
theorem dX13_isLetterAt_24 : decode cX13_isLetterAt 24 = .ok (.iload_n 1, 1) := by decide +kernel
theorem dX13_isLetterAt_25 : decode cX13_isLetterAt 25 = .ok (.imul, 1) := by decide +kernel
theorem dX13_isLetterAt_26 : decode cX13_isLetterAt 26 = .ok (.iload_n 2, 1) := by decide +kernel
theorem dX13_isLetterAt_27 : decode cX13_isLetterAt 27 = .ok (.iadd, 1) := by decide +kernel
theorem dX13_isLetterAt_28 : decode cX13_isLetterAt 28 = .ok (.baload, 1) := by decide +kernel
theorem dX13_isLetterAt_29 : decode cX13_isLetterAt 29 = .ok (.invokestatic 516, 3) := by decide +kernel
theorem dX13_isLetterAt_32 : decode cX13_isLetterAt 32 = .ok (.invokestatic 34, 3) := by decide +kernel
theorem dX13_isLetterAt_35 : decode cX13_isLetterAt 35 = .ok (.ifCond .eq 7, 3) := by decide +kernel
theorem dX13_isLetterAt_38 : decode cX13_isLetterAt 38 = .ok (.iconst 1, 1) := by decide +kernel
theorem dX13_isLetterAt_39 : decode cX13_isLetterAt 39 = .ok (.goto 4, 3) := by decide +kernel
theorem dX13_isLetterAt_42 : decode cX13_isLetterAt 42 = .ok (.iconst 0, 1) := by decide +kernel
theorem dX13_isLetterAt_43 : decode cX13_isLetterAt 43 = .ok (.ireturn, 1) := by decide +kernel
noncomputable def tX13_isLetterAt_26 : qT (Int32 × qM) :=
  eZ
noncomputable def wX13_isLetterAt_26 (k : Int32 → qM → Option (Int32 × qM)) : qT (Int32 × qM) := fun lo st m => match lo, st with
  | [_, _, _], [.int s0] => k s0 m
  | _, _ => none
set_option maxRecDepth 20000 in
theorem sX13_isLetterAt_26 {C : qCx} {w : qWp} (h : qOk C w RX13 cX13_isLetterAt 3 1 155 155) (hm : qMt C (some .boolean)) (hx : qNx C) : qSnd C w 3 155 (qQf C w 155 155 jI) qfin 155 43 (tX13_isLetterAt_26) :=
  zZ (pc := 43) h hm (Nat.le_refl _) dX13_isLetterAt_43
set_option maxRecDepth 20000 in
theorem lX13_isLetterAt_26 (s0 : Int32) (m : qM) : tX13_isLetterAt_26 [none, none, none] [(.int s0)] m = fX13_isLetterAt_26 s0 m := rfl
theorem bX13_isLetterAt_26 {C : qCx} {w : qWp} (h : qOk C w RX13 cX13_isLetterAt 3 1 155 155) (hm : qMt C (some .boolean)) (hx : qNx C) : qSnd C w 3 155 (qQf C w 155 155 jI) qfin 155 43 (wX13_isLetterAt_26 fX13_isLetterAt_26) :=
  qSnd_of (fun lo st m x hr0 => by
    unfold wX13_isLetterAt_26 at hr0
    split at hr0
    · exact ⟨_, (qsub_n (qsub_n (qsub_n qsub_nil))), (lX13_isLetterAt_26 _ _).trans hr0⟩
    · cases hr0) (sX13_isLetterAt_26 h hm hx)
noncomputable def tX13_isLetterAt_25 (j26 : qT (Int32 × qM)) : qT (Int32 × qM) :=
  oC (.int (0 : Int32)) (j26)
noncomputable def wX13_isLetterAt_25 (k : qM → Option (Int32 × qM)) : qT (Int32 × qM) := fun lo st m => match lo, st with
  | [_, _, _], [] => k m
  | _, _ => none
set_option maxRecDepth 20000 in
theorem sX13_isLetterAt_25 {C : qCx} {w : qWp} (h : qOk C w RX13 cX13_isLetterAt 3 1 155 155) (hm : qMt C (some .boolean)) (hx : qNx C) {j26 : qT (Int32 × qM)} (k26 : qSnd C w 3 155 (qQf C w 155 155 jI) qfin 155 43 j26) : qSnd C w 3 155 (qQf C w 155 155 jI) qfin 155 42 (tX13_isLetterAt_25 j26) :=
  cC (pc := 42) h dX13_isLetterAt_42 rfl (k26)
set_option maxRecDepth 20000 in
theorem lX13_isLetterAt_25 (m : qM) : tX13_isLetterAt_25 (wX13_isLetterAt_26 fX13_isLetterAt_26) [none, none, none] [] m = fX13_isLetterAt_25 m := rfl
theorem bX13_isLetterAt_25 {C : qCx} {w : qWp} (h : qOk C w RX13 cX13_isLetterAt 3 1 155 155) (hm : qMt C (some .boolean)) (hx : qNx C) : qSnd C w 3 155 (qQf C w 155 155 jI) qfin 155 42 (wX13_isLetterAt_25 fX13_isLetterAt_25) :=
  qSnd_of (fun lo st m x hr0 => by
    unfold wX13_isLetterAt_25 at hr0
    split at hr0
    · exact ⟨_, (qsub_n (qsub_n (qsub_n qsub_nil))), (lX13_isLetterAt_25 _).trans hr0⟩
    · cases hr0) (sX13_isLetterAt_25 h hm hx (bX13_isLetterAt_26 h hm hx))
noncomputable def tX13_isLetterAt_0 (j25 : qT (Int32 × qM)) (j26 : qT (Int32 × qM)) : qT (Int32 × qM) :=
  oLi 2 (oI2l (oC (.long (0 : Int64)) (oLa 0 (oGf 98 71 151 (oLi 1 (oAi 151 40 (oI2l (oC (.long (1 : Int64)) (oJJ (· - ·) (oCi GX13_in 3 (oEq (j25) (oLa 0 (oGf 98 73 153 (oC (.int (60 : Int32)) (oLi 1 (o2 (· * ·) (oLi 2 (o2 (· + ·) (oAi 153 2400 (oCi GX13_small 1 (oCi GX13_isSmall 1 (oEq (j25) (oC (.int (1 : Int32)) (j26))))))))))))))))))))))))
set_option maxRecDepth 20000 in
theorem sX13_isLetterAt_0 {C : qCx} {w : qWp} (h : qOk C w RX13 cX13_isLetterAt 3 1 155 155) (hm : qMt C (some .boolean)) (hx : qNx C) {j25 : qT (Int32 × qM)} {j26 : qT (Int32 × qM)} (k25 : qSnd C w 3 155 (qQf C w 155 155 jI) qfin 155 42 j25) (k26 : qSnd C w 3 155 (qQf C w 155 155 jI) qfin 155 43 j26) : qSnd C w 3 155 (qQf C w 155 155 jI) qfin 155 0 (tX13_isLetterAt_0 j25 j26) :=
  cLi (pc := 0) h dX13_isLetterAt_0 rfl (aI2l (pc := 1) h dX13_isLetterAt_1 (cJ (pc := 2) h dX13_isLetterAt_2 rfl (cLa (pc := 3) h dX13_isLetterAt_3 rfl (gGf (pc := 4) h dX13_isLetterAt_4 ff_X13_298_98 (Nat.le_of_ble_eq_true rfl) (Nat.le_of_ble_eq_true rfl) rfl (cLi (pc := 7) h dX13_isLetterAt_7 rfl (rAi (pc := 8) h dX13_isLetterAt_8 rfl (Nat.le_of_ble_eq_true rfl) (Nat.le_of_ble_eq_true rfl) (aI2l (pc := 9) h dX13_isLetterAt_9 (cJ (pc := 10) h dX13_isLetterAt_10 rfl (aLsub (pc := 11) h dX13_isLetterAt_11 (kCi (pc := 12) h (kd_X13_66 h dX13_isLetterAt_12) spX13_in (by decide) (by decide) (by decide) (by decide) (jEq (pc := 15) h dX13_isLetterAt_15 rfl (k25) (cLa (pc := 18) h dX13_isLetterAt_18 rfl (gGf (pc := 19) h dX13_isLetterAt_19 ff_X13_304_98 (Nat.le_of_ble_eq_true rfl) (Nat.le_of_ble_eq_true rfl) rfl (cB (pc := 22) h dX13_isLetterAt_22 rfl (cLi (pc := 24) h dX13_isLetterAt_24 rfl (aMul (pc := 25) h dX13_isLetterAt_25 (cLi (pc := 26) h dX13_isLetterAt_26 rfl (aAdd (pc := 27) h dX13_isLetterAt_27 (rAb (pc := 28) h dX13_isLetterAt_28 rfl (Nat.le_of_ble_eq_true rfl) (Nat.le_of_ble_eq_true rfl) (kCi (pc := 29) h (kd_X13_516 h dX13_isLetterAt_29) spX13_small (by decide) (by decide) (by decide) (by decide) (kCi (pc := 32) h (kd_X13_34 h dX13_isLetterAt_32) spX13_isSmall (by decide) (by decide) (by decide) (by decide) (jEq (pc := 35) h dX13_isLetterAt_35 rfl (k25) (cC (pc := 38) h dX13_isLetterAt_38 rfl (jGo (pc := 39) h dX13_isLetterAt_39 rfl (k26)))))))))))))))))))))))))
set_option maxRecDepth 20000 in
theorem lX13_isLetterAt_0 (a1 : Int32) (a2 : Int32) (m : qM) : tX13_isLetterAt_0 (wX13_isLetterAt_25 fX13_isLetterAt_25) (wX13_isLetterAt_26 fX13_isLetterAt_26) [some (.ref 98), some (.int a1), some (.int a2)] [] m = fX13_isLetterAt_0 a1 a2 m := rfl
noncomputable def GX13_isLetterAt : qG Int32 := fun av m => match av with
  | [.ref 98, .int a1, .int a2] => fX13_isLetterAt a1 a2 m
  | _ => none
theorem spX13_isLetterAt : qSpI yX13_isLetterAt (.code yX13_isLetterAt cX13_isLetterAt 3 (some .boolean)) 1 qfin 155 155 1 GX13_isLetterAt := by
  intro av m x m' hG
  unfold GX13_isLetterAt at hG
  split at hG
  · rename_i a1 a2
    rw [fX13_isLetterAt_d] at hG
    exact ⟨qmeet (J := jI) (r := (x, m')) (av := [.ref 98, .int a1, .int a2]) (by decide +kernel) (Nat.le_of_ble_eq_true rfl) (fun C w h hm hx hn => sX13_isLetterAt_0 h hm hx (bX13_isLetterAt_25 h hm hx) (bX13_isLetterAt_26 h hm hx)) ((lX13_isLetterAt_0 _ _ _).trans hG) (Nat.le_of_ble_eq_true rfl), Or.inl ⟨98, _, 13, _, _, rfl, by decide, rfl, qCk_13, rfl⟩⟩
  · cases hG
theorem im_X13_isLetterAt : Jvm.Cond.instanceMethod yX13_isLetterAt ∈ qTw := qm9 (List.mem_of_getElem? (i := 154) (by decide +kernel)) (by decide +kernel)
theorem se_X13_isLetterAt : Jvm.Cond.selects yX13_isLetterAt.cls yX13_isLetterAt yX13_isLetterAt ∈ qTw := List.mem_filter.mpr ⟨List.mem_append_left _ (List.mem_of_getElem? (i := 87) (by decide +kernel)), rfl⟩
theorem co_X13_isLetterAt : Jvm.Cond.code yX13_isLetterAt cX13_isLetterAt 3 (some .boolean) ∈ qTw := qm9 (List.mem_of_getElem? (i := 155) (by decide +kernel)) (by decide +kernel)
theorem yk_X13_isLetterAt : qYk yX13_isLetterAt 2 := ⟨⟨by decide +kernel, by decide +kernel⟩, by decide +kernel⟩
theorem ml_X13_519 : Jvm.Cond.methodLink RX13 519 yX13_isLetterAt ∈ qTw := qm9 (List.mem_of_getElem? (i := 152) (by decide +kernel)) (by decide +kernel)
theorem kd_X13_519 {C : qCx} {w : qWp} {cc : ByteArray} {nL dp n0 n1 pc : Nat} (h : qOk C w RX13 cc nL dp n0 n1) (d : decode cc pc = .ok (.invokevirtual 519, 3)) : qCallOk C w nL dp n0 n1 pc 3 1 yX13_isLetterAt (.code yX13_isLetterAt cX13_isLetterAt 3 (some .boolean)) := kindV h d ml_X13_519 im_X13_isLetterAt se_X13_isLetterAt in_ParentEveModel co_X13_isLetterAt yk_X13_isLetterAt (by decide)
theorem dX13_hasWord_0 : decode cX13_hasWord 0 = .ok (.iconst 0, 1) := by decide +kernel
theorem dX13_hasWord_1 : decode cX13_hasWord 1 = .ok (.istore_n 2, 1) := by decide +kernel
theorem dX13_hasWord_2 : decode cX13_hasWord 2 = .ok (.iload_n 2, 1) := by decide +kernel
theorem dX13_hasWord_3 : decode cX13_hasWord 3 = .ok (.aload_n 0, 1) := by decide +kernel
theorem dX13_hasWord_4 : decode cX13_hasWord 4 = .ok (.getfield 298, 3) := by decide +kernel
theorem dX13_hasWord_7 : decode cX13_hasWord 7 = .ok (.iload_n 1, 1) := by decide +kernel
theorem dX13_hasWord_8 : decode cX13_hasWord 8 = .ok (.iaload, 1) := by decide +kernel
theorem dX13_hasWord_9 : decode cX13_hasWord 9 = .ok (.if_icmp .ge 108, 3) := by decide +kernel
theorem dX13_hasWord_12 : decode cX13_hasWord 12 = .ok (.aload_n 0, 1) := by decide +kernel
theorem dX13_hasWord_13 : decode cX13_hasWord 13 = .ok (.iload_n 1, 1) := by decide +kernel
theorem dX13_hasWord_14 : decode cX13_hasWord 14 = .ok (.iload_n 2, 1) := by decide +kernel
theorem dX13_hasWord_15 : decode cX13_hasWord 15 = .ok (.invokevirtual 519, 3) := by decide +kernel
theorem dX13_hasWord_18 : decode cX13_hasWord 18 = .ok (.ifCond .eq 93, 3) := by decide +kernel
theorem dX13_hasWord_21 : decode cX13_hasWord 21 = .ok (.aload_n 0, 1) := by decide +kernel
theorem dX13_hasWord_22 : decode cX13_hasWord 22 = .ok (.iload_n 1, 1) := by decide +kernel
theorem dX13_hasWord_23 : decode cX13_hasWord 23 = .ok (.iload_n 2, 1) := by decide +kernel
theorem dX13_hasWord_24 : decode cX13_hasWord 24 = .ok (.iconst 1, 1) := by decide +kernel
theorem dX13_hasWord_25 : decode cX13_hasWord 25 = .ok (.isub, 1) := by decide +kernel
theorem dX13_hasWord_26 : decode cX13_hasWord 26 = .ok (.invokevirtual 519, 3) := by decide +kernel
theorem dX13_hasWord_29 : decode cX13_hasWord 29 = .ok (.ifCond .eq 6, 3) := by decide +kernel
theorem dX13_hasWord_32 : decode cX13_hasWord 32 = .ok (.goto 79, 3) := by decide +kernel
theorem dX13_hasWord_35 : decode cX13_hasWord 35 = .ok (.iconst 0, 1) := by decide +kernel
theorem dX13_hasWord_36 : decode cX13_hasWord 36 = .ok (.istore_n 3, 1) := by decide +kernel
theorem dX13_hasWord_37 : decode cX13_hasWord 37 = .ok (.iload_n 3, 1) := by decide +kernel
theorem dX13_hasWord_38 : decode cX13_hasWord 38 = .ok (.aload_n 0, 1) := by decide +kernel
theorem dX13_hasWord_39 : decode cX13_hasWord 39 = .ok (.getfield 17, 3) := by decide +kernel
theorem dX13_hasWord_42 : decode cX13_hasWord 42 = .ok (.if_icmp .ge 48, 3) := by decide +kernel
theorem dX13_hasWord_45 : decode cX13_hasWord 45 = .ok (.aload_n 0, 1) := by decide +kernel
theorem dX13_hasWord_46 : decode cX13_hasWord 46 = .ok (.iload_n 1, 1) := by decide +kernel
theorem dX13_hasWord_47 : decode cX13_hasWord 47 = .ok (.iload_n 2, 1) := by decide +kernel
theorem dX13_hasWord_48 : decode cX13_hasWord 48 = .ok (.iload_n 3, 1) := by decide +kernel
theorem dX13_hasWord_49 : decode cX13_hasWord 49 = .ok (.iadd, 1) := by decide +kernel
theorem dX13_hasWord_50 : decode cX13_hasWord 50 = .ok (.invokevirtual 519, 3) := by decide +kernel
theorem dX13_hasWord_53 : decode cX13_hasWord 53 = .ok (.ifCond .eq 37, 3) := by decide +kernel
theorem dX13_hasWord_56 : decode cX13_hasWord 56 = .ok (.aload_n 0, 1) := by decide +kernel
theorem dX13_hasWord_57 : decode cX13_hasWord 57 = .ok (.getfield 304, 3) := by decide +kernel
theorem dX13_hasWord_60 : decode cX13_hasWord 60 = .ok (.bipush 60, 2) := by decide +kernel
theorem dX13_hasWord_62 : decode cX13_hasWord 62 = .ok (.iload_n 1, 1) := by decide +kernel
theorem dX13_hasWord_63 : decode cX13_hasWord 63 = .ok (.imul, 1) := by decide +kernel
theorem dX13_hasWord_64 : decode cX13_hasWord 64 = .ok (.iload_n 2, 1) := by decide +kernel
theorem dX13_hasWord_65 : decode cX13_hasWord 65 = .ok (.iadd, 1) := by decide +kernel
theorem dX13_hasWord_66 : decode cX13_hasWord 66 = .ok (.iload_n 3, 1) := by decide +kernel
theorem dX13_hasWord_67 : decode cX13_hasWord 67 = .ok (.iadd, 1) := by decide +kernel
theorem dX13_hasWord_68 : decode cX13_hasWord 68 = .ok (.baload, 1) := by decide +kernel
theorem dX13_hasWord_69 : decode cX13_hasWord 69 = .ok (.invokestatic 516, 3) := by decide +kernel
theorem dX13_hasWord_72 : decode cX13_hasWord 72 = .ok (.aload_n 0, 1) := by decide +kernel
theorem dX13_hasWord_73 : decode cX13_hasWord 73 = .ok (.getfield 20, 3) := by decide +kernel
theorem dX13_hasWord_76 : decode cX13_hasWord 76 = .ok (.iload_n 3, 1) := by decide +kernel
theorem dX13_hasWord_77 : decode cX13_hasWord 77 = .ok (.baload, 1) := by decide +kernel
theorem dX13_hasWord_78 : decode cX13_hasWord 78 = .ok (.invokestatic 516, 3) := by decide +kernel
theorem dX13_hasWord_81 : decode cX13_hasWord 81 = .ok (.if_icmp .ne 9, 3) := by decide +kernel
theorem dX13_hasWord_84 : decode cX13_hasWord 84 = .ok (.iinc 3 1, 3) := by decide +kernel
theorem dX13_hasWord_87 : decode cX13_hasWord 87 = .ok (.goto (-50), 3) := by decide +kernel
theorem dX13_hasWord_90 : decode cX13_hasWord 90 = .ok (.iload_n 3, 1) := by decide +kernel
theorem dX13_hasWord_91 : decode cX13_hasWord 91 = .ok (.aload_n 0, 1) := by decide +kernel
theorem dX13_hasWord_92 : decode cX13_hasWord 92 = .ok (.getfield 17, 3) := by decide +kernel
theorem dX13_hasWord_95 : decode cX13_hasWord 95 = .ok (.if_icmp .ne 16, 3) := by decide +kernel
theorem dX13_hasWord_98 : decode cX13_hasWord 98 = .ok (.aload_n 0, 1) := by decide +kernel
theorem dX13_hasWord_99 : decode cX13_hasWord 99 = .ok (.iload_n 1, 1) := by decide +kernel
theorem dX13_hasWord_100 : decode cX13_hasWord 100 = .ok (.iload_n 2, 1) := by decide +kernel
theorem dX13_hasWord_101 : decode cX13_hasWord 101 = .ok (.iload_n 3, 1) := by decide +kernel
theorem dX13_hasWord_102 : decode cX13_hasWord 102 = .ok (.iadd, 1) := by decide +kernel
theorem dX13_hasWord_103 : decode cX13_hasWord 103 = .ok (.invokevirtual 519, 3) := by decide +kernel
theorem dX13_hasWord_106 : decode cX13_hasWord 106 = .ok (.ifCond .ne 5, 3) := by decide +kernel
theorem dX13_hasWord_109 : decode cX13_hasWord 109 = .ok (.iconst 1, 1) := by decide +kernel
theorem dX13_hasWord_110 : decode cX13_hasWord 110 = .ok (.ireturn, 1) := by decide +kernel
theorem dX13_hasWord_111 : decode cX13_hasWord 111 = .ok (.iinc 2 1, 3) := by decide +kernel
theorem dX13_hasWord_114 : decode cX13_hasWord 114 = .ok (.goto (-112), 3) := by decide +kernel
theorem dX13_hasWord_117 : decode cX13_hasWord 117 = .ok (.iconst 0, 1) := by decide +kernel
theorem dX13_hasWord_118 : decode cX13_hasWord 118 = .ok (.ireturn, 1) := by decide +kernel
noncomputable def tX13_hasWord_66 (j2 : qT (Int32 × qM)) : qT (Int32 × qM) :=
  oInc 2 (1 : Int32) (j2)
noncomputable def wX13_hasWord_66 (k : Int32 → Int32 → qM → Option (Int32 × qM)) : qT (Int32 × qM) := fun lo st m => match lo, st with
  | [some (.ref 98), some (.int a1), some (.int a2), _], [] => k a1 a2 m
  | _, _ => none
noncomputable def wX13_hasWord_2 (k : Int32 → Int32 → qM → Option (Int32 × qM)) : qT (Int32 × qM) := fun lo st m => match lo, st with
  | [some (.ref 98), some (.int a1), some (.int a2), _], [] => k a1 a2 m
  | _, _ => none
set_option maxRecDepth 20000 in
theorem sX13_hasWord_66 {C : qCx} {w : qWp} (h : qOk C w RX13 cX13_hasWord 4 2 155 155) (hm : qMt C (some .boolean)) (hx : qNx C) {j2 : qT (Int32 × qM)} (k2 : qSnd C w 4 155 (qQf C w 155 155 jI) qfin 155 2 j2) : qSnd C w 4 155 (qQf C w 155 155 jI) qfin 155 111 (tX13_hasWord_66 j2) :=
  cInc (pc := 111) h dX13_hasWord_111 rfl (jGo (pc := 114) h dX13_hasWord_114 rfl (k2))
set_option maxRecDepth 20000 in
theorem lX13_hasWord_66 (k2 : Int32 → Int32 → qM → Option (Int32 × qM)) (a1 : Int32) (a2 : Int32) (m : qM) : tX13_hasWord_66 (wX13_hasWord_2 k2) [some (.ref 98), some (.int a1), some (.int a2), none] [] m = fX13_hasWord_66 k2 a1 a2 m := rfl
theorem bX13_hasWord_66 {C : qCx} {w : qWp} (h : qOk C w RX13 cX13_hasWord 4 2 155 155) (hm : qMt C (some .boolean)) (hx : qNx C) {k2 : Int32 → Int32 → qM → Option (Int32 × qM)} (h2 : qSnd C w 4 155 (qQf C w 155 155 jI) qfin 155 2 (wX13_hasWord_2 k2)) : qSnd C w 4 155 (qQf C w 155 155 jI) qfin 155 111 (wX13_hasWord_66 (fX13_hasWord_66 k2)) :=
  qSnd_of (fun lo st m x hr0 => by
    unfold wX13_hasWord_66 at hr0
    split at hr0
    · exact ⟨_, (qsub_e (qsub_e (qsub_e (qsub_n qsub_nil)))), (lX13_hasWord_66 _ _ _ _).trans hr0⟩
    · cases hr0) (sX13_hasWord_66 h hm hx h2)
noncomputable def tX13_hasWord_23 (j53 : qT (Int32 × qM)) (j23 : qT (Int32 × qM)) : qT (Int32 × qM) :=
  oLi 3 (oLa 0 (oGi 98 13 (oCGe (j53) (oLa 0 (oLi 1 (oLi 2 (oLi 3 (o2 (· + ·) (oCi GX13_isLetterAt 3 (oEq (j53) (oLa 0 (oGf 98 73 153 (oC (.int (60 : Int32)) (oLi 1 (o2 (· * ·) (oLi 2 (o2 (· + ·) (oLi 3 (o2 (· + ·) (oAi 153 2400 (oCi GX13_small 1 (oLa 0 (oGf 98 11 110 (oLi 3 (oAi 110 400 (oCi GX13_small 1 (oCEq (oInc 3 (1 : Int32) (j23)) (j53))))))))))))))))))))))))))))
noncomputable def wX13_hasWord_23 (k : Int32 → Int32 → Int32 → qM → Option (Int32 × qM)) : qT (Int32 × qM) := fun lo st m => match lo, st with
  | [some (.ref 98), some (.int a1), some (.int a2), some (.int a3)], [] => k a1 a2 a3 m
  | _, _ => none
noncomputable def wX13_hasWord_53 (k : Int32 → Int32 → Int32 → qM → Option (Int32 × qM)) : qT (Int32 × qM) := fun lo st m => match lo, st with
  | [some (.ref 98), some (.int a1), some (.int a2), some (.int a3)], [] => k a1 a2 a3 m
  | _, _ => none
set_option maxRecDepth 20000 in
theorem sX13_hasWord_23 {C : qCx} {w : qWp} (h : qOk C w RX13 cX13_hasWord 4 2 155 155) (hm : qMt C (some .boolean)) (hx : qNx C) {j53 : qT (Int32 × qM)} {j23 : qT (Int32 × qM)} (k53 : qSnd C w 4 155 (qQf C w 155 155 jI) qfin 155 90 j53) (k23 : qSnd C w 4 155 (qQf C w 155 155 jI) qfin 155 37 j23) : qSnd C w 4 155 (qQf C w 155 155 jI) qfin 155 37 (tX13_hasWord_23 j53 j23) :=
  cLi (pc := 37) h dX13_hasWord_37 rfl (cLa (pc := 38) h dX13_hasWord_38 rfl (gGi (pc := 39) h dX13_hasWord_39 ff_X13_17_98 (Nat.le_of_ble_eq_true rfl) (Nat.le_of_ble_eq_true rfl) (jCGe (pc := 42) h dX13_hasWord_42 rfl (k53) (cLa (pc := 45) h dX13_hasWord_45 rfl (cLi (pc := 46) h dX13_hasWord_46 rfl (cLi (pc := 47) h dX13_hasWord_47 rfl (cLi (pc := 48) h dX13_hasWord_48 rfl (aAdd (pc := 49) h dX13_hasWord_49 (kCi (pc := 50) h (kd_X13_519 h dX13_hasWord_50) spX13_isLetterAt (by decide) (by decide) (by decide) (by decide) (jEq (pc := 53) h dX13_hasWord_53 rfl (k53) (cLa (pc := 56) h dX13_hasWord_56 rfl (gGf (pc := 57) h dX13_hasWord_57 ff_X13_304_98 (Nat.le_of_ble_eq_true rfl) (Nat.le_of_ble_eq_true rfl) rfl (cB (pc := 60) h dX13_hasWord_60 rfl (cLi (pc := 62) h dX13_hasWord_62 rfl (aMul (pc := 63) h dX13_hasWord_63 (cLi (pc := 64) h dX13_hasWord_64 rfl (aAdd (pc := 65) h dX13_hasWord_65 (cLi (pc := 66) h dX13_hasWord_66 rfl (aAdd (pc := 67) h dX13_hasWord_67 (rAb (pc := 68) h dX13_hasWord_68 rfl (Nat.le_of_ble_eq_true rfl) (Nat.le_of_ble_eq_true rfl) (kCi (pc := 69) h (kd_X13_516 h dX13_hasWord_69) spX13_small (by decide) (by decide) (by decide) (by decide) (cLa (pc := 72) h dX13_hasWord_72 rfl (gGf (pc := 73) h dX13_hasWord_73 ff_X13_20_98 (Nat.le_of_ble_eq_true rfl) (Nat.le_of_ble_eq_true rfl) rfl (cLi (pc := 76) h dX13_hasWord_76 rfl (rAb (pc := 77) h dX13_hasWord_77 rfl (Nat.le_of_ble_eq_true rfl) (Nat.le_of_ble_eq_true rfl) (kCi (pc := 78) h (kd_X13_516 h dX13_hasWord_78) spX13_small (by decide) (by decide) (by decide) (by decide) (jCNe (pc := 81) h dX13_hasWord_81 rfl (k53) (cInc (pc := 84) h dX13_hasWord_84 rfl (jGo (pc := 87) h dX13_hasWord_87 rfl (k23))))))))))))))))))))))))))))))
set_option maxRecDepth 20000 in
theorem lX13_hasWord_23 (k53 : Int32 → Int32 → Int32 → qM → Option (Int32 × qM)) (n : Nat) (a1 : Int32) (a2 : Int32) (a3 : Int32) (m : qM) : tX13_hasWord_23 (wX13_hasWord_53 k53) (wX13_hasWord_23 ((fX13_hasWord_23 k53 n))) [some (.ref 98), some (.int a1), some (.int a2), some (.int a3)] [] m = fX13_hasWord_23 k53 (n + 1) a1 a2 a3 m := rfl
theorem bX13_hasWord_23 {C : qCx} {w : qWp} (h : qOk C w RX13 cX13_hasWord 4 2 155 155) (hm : qMt C (some .boolean)) (hx : qNx C) {k53 : Int32 → Int32 → Int32 → qM → Option (Int32 × qM)} (h53 : qSnd C w 4 155 (qQf C w 155 155 jI) qfin 155 90 (wX13_hasWord_53 k53)) : ∀ n : Nat, qSnd C w 4 155 (qQf C w 155 155 jI) qfin 155 37 (wX13_hasWord_23 (fX13_hasWord_23 k53 n))
  | 0 => qSnd_of0 (fun lo st m x hr0 => by
    unfold wX13_hasWord_23 at hr0
    split at hr0
    · cases hr0
    · cases hr0)
  | n + 1 => by
    have ih := bX13_hasWord_23 h hm hx h53 n
    exact qSnd_of (fun lo st m x hr0 => by
    unfold wX13_hasWord_23 at hr0
    split at hr0
    · exact ⟨_, (qsub_e (qsub_e (qsub_e (qsub_e qsub_nil)))), (lX13_hasWord_23 _ n _ _ _ _).trans hr0⟩
    · cases hr0) (sX13_hasWord_23 h hm hx h53 ih)
noncomputable def tX13_hasWord_53 (j66 : qT (Int32 × qM)) : qT (Int32 × qM) :=
  oLi 3 (oLa 0 (oGi 98 13 (oCEq (oLa 0 (oLi 1 (oLi 2 (oLi 3 (o2 (· + ·) (oCi GX13_isLetterAt 3 (oEq (oC (.int (1 : Int32)) (eZ)) (j66)))))))) (j66))))
set_option maxRecDepth 20000 in
theorem sX13_hasWord_53 {C : qCx} {w : qWp} (h : qOk C w RX13 cX13_hasWord 4 2 155 155) (hm : qMt C (some .boolean)) (hx : qNx C) {j66 : qT (Int32 × qM)} (k66 : qSnd C w 4 155 (qQf C w 155 155 jI) qfin 155 111 j66) : qSnd C w 4 155 (qQf C w 155 155 jI) qfin 155 90 (tX13_hasWord_53 j66) :=
  cLi (pc := 90) h dX13_hasWord_90 rfl (cLa (pc := 91) h dX13_hasWord_91 rfl (gGi (pc := 92) h dX13_hasWord_92 ff_X13_17_98 (Nat.le_of_ble_eq_true rfl) (Nat.le_of_ble_eq_true rfl) (jCNe (pc := 95) h dX13_hasWord_95 rfl (k66) (cLa (pc := 98) h dX13_hasWord_98 rfl (cLi (pc := 99) h dX13_hasWord_99 rfl (cLi (pc := 100) h dX13_hasWord_100 rfl (cLi (pc := 101) h dX13_hasWord_101 rfl (aAdd (pc := 102) h dX13_hasWord_102 (kCi (pc := 103) h (kd_X13_519 h dX13_hasWord_103) spX13_isLetterAt (by decide) (by decide) (by decide) (by decide) (jNe (pc := 106) h dX13_hasWord_106 rfl (k66) (cC (pc := 109) h dX13_hasWord_109 rfl (zZ (pc := 110) h hm (Nat.le_refl _) dX13_hasWord_110))))))))))))
set_option maxRecDepth 20000 in
theorem lX13_hasWord_53 (k2 : Int32 → Int32 → qM → Option (Int32 × qM)) (a1 : Int32) (a2 : Int32) (a3 : Int32) (m : qM) : tX13_hasWord_53 (wX13_hasWord_66 (fX13_hasWord_66 k2)) [some (.ref 98), some (.int a1), some (.int a2), some (.int a3)] [] m = fX13_hasWord_53 k2 a1 a2 a3 m := rfl
theorem bX13_hasWord_53 {C : qCx} {w : qWp} (h : qOk C w RX13 cX13_hasWord 4 2 155 155) (hm : qMt C (some .boolean)) (hx : qNx C) {k2 : Int32 → Int32 → qM → Option (Int32 × qM)} (h2 : qSnd C w 4 155 (qQf C w 155 155 jI) qfin 155 2 (wX13_hasWord_2 k2)) : qSnd C w 4 155 (qQf C w 155 155 jI) qfin 155 90 (wX13_hasWord_53 (fX13_hasWord_53 k2)) :=
  qSnd_of (fun lo st m x hr0 => by
    unfold wX13_hasWord_53 at hr0
    split at hr0
    · exact ⟨_, (qsub_e (qsub_e (qsub_e (qsub_e qsub_nil)))), (lX13_hasWord_53 _ _ _ _ _).trans hr0⟩
    · cases hr0) (sX13_hasWord_53 h hm hx (bX13_hasWord_66 h hm hx h2))
noncomputable def tX13_hasWord_2 (j66 : qT (Int32 × qM)) (j23 : qT (Int32 × qM)) : qT (Int32 × qM) :=
  oLi 2 (oLa 0 (oGf 98 71 151 (oLi 1 (oAi 151 40 (oCGe (oC (.int (0 : Int32)) (eZ)) (oLa 0 (oLi 1 (oLi 2 (oCi GX13_isLetterAt 3 (oEq (j66) (oLa 0 (oLi 1 (oLi 2 (oC (.int (1 : Int32)) (o2 (· - ·) (oCi GX13_isLetterAt 3 (oEq (oC (.int (0 : Int32)) (oSi 3 (j23))) (j66))))))))))))))))))
set_option maxRecDepth 20000 in
theorem sX13_hasWord_2 {C : qCx} {w : qWp} (h : qOk C w RX13 cX13_hasWord 4 2 155 155) (hm : qMt C (some .boolean)) (hx : qNx C) {j66 : qT (Int32 × qM)} {j23 : qT (Int32 × qM)} (k66 : qSnd C w 4 155 (qQf C w 155 155 jI) qfin 155 111 j66) (k23 : qSnd C w 4 155 (qQf C w 155 155 jI) qfin 155 37 j23) : qSnd C w 4 155 (qQf C w 155 155 jI) qfin 155 2 (tX13_hasWord_2 j66 j23) :=
  cLi (pc := 2) h dX13_hasWord_2 rfl (cLa (pc := 3) h dX13_hasWord_3 rfl (gGf (pc := 4) h dX13_hasWord_4 ff_X13_298_98 (Nat.le_of_ble_eq_true rfl) (Nat.le_of_ble_eq_true rfl) rfl (cLi (pc := 7) h dX13_hasWord_7 rfl (rAi (pc := 8) h dX13_hasWord_8 rfl (Nat.le_of_ble_eq_true rfl) (Nat.le_of_ble_eq_true rfl) (jCGe (pc := 9) h dX13_hasWord_9 rfl (cC (pc := 117) h dX13_hasWord_117 rfl (zZ (pc := 118) h hm (Nat.le_refl _) dX13_hasWord_118)) (cLa (pc := 12) h dX13_hasWord_12 rfl (cLi (pc := 13) h dX13_hasWord_13 rfl (cLi (pc := 14) h dX13_hasWord_14 rfl (kCi (pc := 15) h (kd_X13_519 h dX13_hasWord_15) spX13_isLetterAt (by decide) (by decide) (by decide) (by decide) (jEq (pc := 18) h dX13_hasWord_18 rfl (k66) (cLa (pc := 21) h dX13_hasWord_21 rfl (cLi (pc := 22) h dX13_hasWord_22 rfl (cLi (pc := 23) h dX13_hasWord_23 rfl (cC (pc := 24) h dX13_hasWord_24 rfl (aSub (pc := 25) h dX13_hasWord_25 (kCi (pc := 26) h (kd_X13_519 h dX13_hasWord_26) spX13_isLetterAt (by decide) (by decide) (by decide) (by decide) (jEq (pc := 29) h dX13_hasWord_29 rfl (cC (pc := 35) h dX13_hasWord_35 rfl (cSi (pc := 36) h dX13_hasWord_36 rfl (k23))) (jGo (pc := 32) h dX13_hasWord_32 rfl (k66)))))))))))))))))))
set_option maxRecDepth 20000 in
theorem lX13_hasWord_2 (n : Nat) (a1 : Int32) (a2 : Int32) (m : qM) : tX13_hasWord_2 (wX13_hasWord_66 (fX13_hasWord_66 (fX13_hasWord_2 n))) (wX13_hasWord_23 (fX13_hasWord_23 (fX13_hasWord_53 (fX13_hasWord_2 n)) FU)) [some (.ref 98), some (.int a1), some (.int a2), none] [] m = fX13_hasWord_2 (n + 1) a1 a2 m := rfl
theorem bX13_hasWord_2 {C : qCx} {w : qWp} (h : qOk C w RX13 cX13_hasWord 4 2 155 155) (hm : qMt C (some .boolean)) (hx : qNx C) : ∀ n : Nat, qSnd C w 4 155 (qQf C w 155 155 jI) qfin 155 2 (wX13_hasWord_2 (fX13_hasWord_2 n))
  | 0 => qSnd_of0 (fun lo st m x hr0 => by
    unfold wX13_hasWord_2 at hr0
    split at hr0
    · cases hr0
    · cases hr0)
  | n + 1 => by
    have ih := bX13_hasWord_2 h hm hx n
    exact qSnd_of (fun lo st m x hr0 => by
    unfold wX13_hasWord_2 at hr0
    split at hr0
    · exact ⟨_, (qsub_e (qsub_e (qsub_e (qsub_n qsub_nil)))), (lX13_hasWord_2 n _ _ _).trans hr0⟩
    · cases hr0) (sX13_hasWord_2 h hm hx (bX13_hasWord_66 h hm hx ih) (bX13_hasWord_23 h hm hx (bX13_hasWord_53 h hm hx ih) FU))
noncomputable def tX13_hasWord_0 (j2 : qT (Int32 × qM)) : qT (Int32 × qM) :=
  oC (.int (0 : Int32)) (oSi 2 (j2))
set_option maxRecDepth 20000 in
theorem sX13_hasWord_0 {C : qCx} {w : qWp} (h : qOk C w RX13 cX13_hasWord 4 2 155 155) (hm : qMt C (some .boolean)) (hx : qNx C) {j2 : qT (Int32 × qM)} (k2 : qSnd C w 4 155 (qQf C w 155 155 jI) qfin 155 2 j2) : qSnd C w 4 155 (qQf C w 155 155 jI) qfin 155 0 (tX13_hasWord_0 j2) :=
  cC (pc := 0) h dX13_hasWord_0 rfl (cSi (pc := 1) h dX13_hasWord_1 rfl (k2))
set_option maxRecDepth 20000 in
theorem lX13_hasWord_0 (a1 : Int32) (m : qM) : tX13_hasWord_0 (wX13_hasWord_2 (fX13_hasWord_2 FU)) [some (.ref 98), some (.int a1), none, none] [] m = fX13_hasWord_0 a1 m := rfl
noncomputable def GX13_hasWord : qG Int32 := fun av m => match av with
  | [.ref 98, .int a1] => fX13_hasWord a1 m
  | _ => none
theorem spX13_hasWord : qSpI yX13_hasWord (.code yX13_hasWord cX13_hasWord 4 (some .boolean)) 2 qfin 155 155 1 GX13_hasWord := by
  intro av m x m' hG
  unfold GX13_hasWord at hG
  split at hG
  · rename_i a1
    rw [fX13_hasWord_d] at hG
    exact ⟨qmeet (J := jI) (r := (x, m')) (av := [.ref 98, .int a1]) (by decide +kernel) (Nat.le_of_ble_eq_true rfl) (fun C w h hm hx hn => sX13_hasWord_0 h hm hx (bX13_hasWord_2 h hm hx FU)) ((lX13_hasWord_0 _ _).trans hG) (Nat.le_of_ble_eq_true rfl), Or.inl ⟨98, _, 13, _, _, rfl, by decide, rfl, qCk_13, rfl⟩⟩
  · cases hG

