/-! methods (by program): X13_teacher, X13_family, X13_wish, X13_apart, X13_walkOf, X13_walk, X13_ask, X13_isAsk, X13_hasTeacher, X13_mayBe, X13_may -/
theorem im_X13_areSlots : Jvm.Cond.static yX13_areSlots ∈ qTw := qm8 (List.mem_of_getElem? (i := 111) (by decide +kernel)) (by decide +kernel)
theorem co_X13_areSlots : Jvm.Cond.code yX13_areSlots cX13_areSlots 2 (some .boolean) ∈ qTw := qm8 (List.mem_of_getElem? (i := 112) (by decide +kernel)) (by decide +kernel)
theorem yk_X13_areSlots : qYk yX13_areSlots 2 := ⟨⟨by decide +kernel, by decide +kernel⟩, by decide +kernel⟩
theorem ml_X13_354 : Jvm.Cond.methodLink RX13 354 yX13_areSlots ∈ qTw := qm8 (List.mem_of_getElem? (i := 110) (by decide +kernel)) (by decide +kernel)
theorem kd_X13_354 {C : qCx} {w : qWp} {cc : ByteArray} {nL dp n0 n1 pc : Nat} (h : qOk C w RX13 cc nL dp n0 n1) (d : decode cc pc = .ok (.invokestatic 354, 3)) : qCallOk C w nL dp n0 n1 pc 2 0 yX13_areSlots (.code yX13_areSlots cX13_areSlots 2 (some .boolean)) := kindS h d ml_X13_354 im_X13_areSlots in_ParentEveModel co_X13_areSlots yk_X13_areSlots (by decide)
theorem mf_X13_188 : Jvm.Cond.fieldLink RX13 188 (qTb 13 23).1 (qTb 13 23).2.1 (qTb 13 23).2.2.1 ∈ qTw := qm7 (List.mem_of_getElem? (i := 1) (by decide +kernel)) (by decide +kernel)
theorem ff_X13_188_98 : qFd RX13 188 98 13 23 3 := ⟨mf_X13_188, rfl, by decide, rfl⟩
theorem mf_X13_191 : Jvm.Cond.fieldLink RX13 191 (qTb 13 24).1 (qTb 13 24).2.1 (qTb 13 24).2.2.1 ∈ qTw := qm7 (List.mem_of_getElem? (i := 2) (by decide +kernel)) (by decide +kernel)
theorem ff_X13_191_98 : qFd RX13 191 98 13 24 3 := ⟨mf_X13_191, rfl, by decide, rfl⟩
theorem dX13_teacher_0 : decode cX13_teacher 0 = .ok (.iload_n 1, 1) := by decide +kernel
theorem dX13_teacher_1 : decode cX13_teacher 1 = .ok (.invokestatic 340, 3) := by decide +kernel
theorem dX13_teacher_4 : decode cX13_teacher 4 = .ok (.ifCond .eq 11, 3) := by decide +kernel
theorem dX13_teacher_7 : decode cX13_teacher 7 = .ok (.iload_n 2, 1) := by decide +kernel
theorem dX13_teacher_8 : decode cX13_teacher 8 = .ok (.iload_n 3, 1) := by decide +kernel
theorem dX13_teacher_9 : decode cX13_teacher 9 = .ok (.invokestatic 354, 3) := by decide +kernel
theorem dX13_teacher_12 : decode cX13_teacher 12 = .ok (.ifCond .ne 6, 3) := by decide +kernel
theorem dX13_teacher_15 : decode cX13_teacher 15 = .ok (.bipush (-2), 2) := by decide +kernel
theorem dX13_teacher_17 : decode cX13_teacher 17 = .ok (.ireturn, 1) := by decide +kernel
theorem dX13_teacher_18 : decode cX13_teacher 18 = .ok (.aload_n 0, 1) := by decide +kernel
theorem dX13_teacher_19 : decode cX13_teacher 19 = .ok (.invokevirtual 326, 3) := by decide +kernel
theorem dX13_teacher_22 : decode cX13_teacher 22 = .ok (.ifCond .eq 6, 3) := by decide +kernel
theorem dX13_teacher_25 : decode cX13_teacher 25 = .ok (.bipush (-4), 2) := by decide +kernel
theorem dX13_teacher_27 : decode cX13_teacher 27 = .ok (.ireturn, 1) := by decide +kernel
theorem dX13_teacher_28 : decode cX13_teacher 28 = .ok (.aload_n 0, 1) := by decide +kernel
theorem dX13_teacher_29 : decode cX13_teacher 29 = .ok (.getfield 188, 3) := by decide +kernel
theorem dX13_teacher_32 : decode cX13_teacher 32 = .ok (.iload_n 1, 1) := by decide +kernel
theorem dX13_teacher_33 : decode cX13_teacher 33 = .ok (.iload_n 2, 1) := by decide +kernel
theorem dX13_teacher_34 : decode cX13_teacher 34 = .ok (.iastore, 1) := by decide +kernel
theorem dX13_teacher_35 : decode cX13_teacher 35 = .ok (.aload_n 0, 1) := by decide +kernel
theorem dX13_teacher_36 : decode cX13_teacher 36 = .ok (.getfield 191, 3) := by decide +kernel
theorem dX13_teacher_39 : decode cX13_teacher 39 = .ok (.iload_n 1, 1) := by decide +kernel
theorem dX13_teacher_40 : decode cX13_teacher 40 = .ok (.iload_n 3, 1) := by decide +kernel
theorem dX13_teacher_41 : decode cX13_teacher 41 = .ok (.iastore, 1) := by decide +kernel
theorem dX13_teacher_42 : decode cX13_teacher 42 = .ok (.iconst 1, 1) := by decide +kernel
theorem dX13_teacher_43 : decode cX13_teacher 43 = .ok (.ireturn, 1) := by decide +kernel
noncomputable def tX13_teacher_7 : qT (Int32 × qM) :=
  oC (.int (-2 : Int32)) (eI)
noncomputable def wX13_teacher_7 (k : qM → Option (Int32 × qM)) : qT (Int32 × qM) := fun lo st m => match lo, st with
  | [_, _, _, _], [] => k m
  | _, _ => none
set_option maxRecDepth 20000 in
theorem sX13_teacher_7 {C : qCx} {w : qWp} (h : qOk C w RX13 cX13_teacher 4 3 155 155) (hm : qMt C (some .int)) (hx : qNx C) : qSnd C w 4 155 (qQf C w 155 155 jI) qfin 155 15 (tX13_teacher_7) :=
  cB (pc := 15) h dX13_teacher_15 rfl (zI (pc := 17) h hm (Nat.le_refl _) dX13_teacher_17)
set_option maxRecDepth 20000 in
theorem lX13_teacher_7 (m : qM) : tX13_teacher_7 [none, none, none, none] [] m = fX13_teacher_7 m := rfl
theorem bX13_teacher_7 {C : qCx} {w : qWp} (h : qOk C w RX13 cX13_teacher 4 3 155 155) (hm : qMt C (some .int)) (hx : qNx C) : qSnd C w 4 155 (qQf C w 155 155 jI) qfin 155 15 (wX13_teacher_7 fX13_teacher_7) :=
  qSnd_of (fun lo st m x hr0 => by
    unfold wX13_teacher_7 at hr0
    split at hr0
    · exact ⟨_, (qsub_n (qsub_n (qsub_n (qsub_n qsub_nil)))), (lX13_teacher_7 _).trans hr0⟩
    · cases hr0) (sX13_teacher_7 h hm hx)
noncomputable def tX13_teacher_0 (j7 : qT (Int32 × qM)) : qT (Int32 × qM) :=
  oLi 1 (oCi GX13_isTeacher 1 (oEq (j7) (oLi 2 (oLi 3 (oCi GX13_areSlots 2 (oEq (j7) (oLa 0 (oCi GX13_isFixed 1 (oEq (oLa 0 (oGf 98 23 114 (oLi 1 (oLi 2 (oWi 114 10 (oLa 0 (oGf 98 24 115 (oLi 1 (oLi 3 (oWi 115 10 (oC (.int (1 : Int32)) (eI)))))))))))) (oC (.int (-4 : Int32)) (eI)))))))))))
set_option maxRecDepth 20000 in
theorem sX13_teacher_0 {C : qCx} {w : qWp} (h : qOk C w RX13 cX13_teacher 4 3 155 155) (hm : qMt C (some .int)) (hx : qNx C) {j7 : qT (Int32 × qM)} (k7 : qSnd C w 4 155 (qQf C w 155 155 jI) qfin 155 15 j7) : qSnd C w 4 155 (qQf C w 155 155 jI) qfin 155 0 (tX13_teacher_0 j7) :=
  cLi (pc := 0) h dX13_teacher_0 rfl (kCi (pc := 1) h (kd_X13_340 h dX13_teacher_1) spX13_isTeacher (by decide) (by decide) (by decide) (by decide) (jEq (pc := 4) h dX13_teacher_4 rfl (k7) (cLi (pc := 7) h dX13_teacher_7 rfl (cLi (pc := 8) h dX13_teacher_8 rfl (kCi (pc := 9) h (kd_X13_354 h dX13_teacher_9) spX13_areSlots (by decide) (by decide) (by decide) (by decide) (jNe (pc := 12) h dX13_teacher_12 rfl (cLa (pc := 18) h dX13_teacher_18 rfl (kCi (pc := 19) h (kd_X13_326 h dX13_teacher_19) spX13_isFixed (by decide) (by decide) (by decide) (by decide) (jEq (pc := 22) h dX13_teacher_22 rfl (cLa (pc := 28) h dX13_teacher_28 rfl (gGf (pc := 29) h dX13_teacher_29 ff_X13_188_98 (Nat.le_of_ble_eq_true rfl) (Nat.le_of_ble_eq_true rfl) rfl (cLi (pc := 32) h dX13_teacher_32 rfl (cLi (pc := 33) h dX13_teacher_33 rfl (rWi (pc := 34) h dX13_teacher_34 rfl (Nat.le_of_ble_eq_true rfl) (Nat.le_of_ble_eq_true rfl) (cLa (pc := 35) h dX13_teacher_35 rfl (gGf (pc := 36) h dX13_teacher_36 ff_X13_191_98 (Nat.le_of_ble_eq_true rfl) (Nat.le_of_ble_eq_true rfl) rfl (cLi (pc := 39) h dX13_teacher_39 rfl (cLi (pc := 40) h dX13_teacher_40 rfl (rWi (pc := 41) h dX13_teacher_41 rfl (Nat.le_of_ble_eq_true rfl) (Nat.le_of_ble_eq_true rfl) (cC (pc := 42) h dX13_teacher_42 rfl (zI (pc := 43) h hm (Nat.le_refl _) dX13_teacher_43)))))))))))) (cB (pc := 25) h dX13_teacher_25 rfl (zI (pc := 27) h hm (Nat.le_refl _) dX13_teacher_27))))) (k7)))))))
set_option maxRecDepth 20000 in
theorem lX13_teacher_0 (a1 : Int32) (a2 : Int32) (a3 : Int32) (m : qM) : tX13_teacher_0 (wX13_teacher_7 fX13_teacher_7) [some (.ref 98), some (.int a1), some (.int a2), some (.int a3)] [] m = fX13_teacher_0 a1 a2 a3 m := rfl
noncomputable def GX13_teacher : qG Int32 := fun av m => match av with
  | [.ref 98, .int a1, .int a2, .int a3] => fX13_teacher a1 a2 a3 m
  | _ => none
theorem spX13_teacher : qSpI yX13_teacher (.code yX13_teacher cX13_teacher 4 (some .int)) 3 qfin 155 155 1 GX13_teacher := by
  intro av m x m' hG
  unfold GX13_teacher at hG
  split at hG
  · rename_i a1 a2 a3
    rw [fX13_teacher_d] at hG
    exact ⟨qmeet (J := jI) (r := (x, m')) (av := [.ref 98, .int a1, .int a2, .int a3]) (by decide +kernel) (Nat.le_of_ble_eq_true rfl) (fun C w h hm hx hn => sX13_teacher_0 h hm hx (bX13_teacher_7 h hm hx)) ((lX13_teacher_0 _ _ _ _).trans hG) (Nat.le_of_ble_eq_true rfl), Or.inl ⟨98, _, 13, _, _, rfl, by decide, rfl, qCk_13, rfl⟩⟩
  · cases hG
theorem im_X13_isFamily : Jvm.Cond.static yX13_isFamily ∈ qTw := qm8 (List.mem_of_getElem? (i := 122) (by decide +kernel)) (by decide +kernel)
theorem co_X13_isFamily : Jvm.Cond.code yX13_isFamily cX13_isFamily 1 (some .boolean) ∈ qTw := qm8 (List.mem_of_getElem? (i := 123) (by decide +kernel)) (by decide +kernel)
theorem yk_X13_isFamily : qYk yX13_isFamily 1 := ⟨⟨by decide +kernel, by decide +kernel⟩, by decide +kernel⟩
theorem ml_X13_358 : Jvm.Cond.methodLink RX13 358 yX13_isFamily ∈ qTw := qm8 (List.mem_of_getElem? (i := 121) (by decide +kernel)) (by decide +kernel)
theorem kd_X13_358 {C : qCx} {w : qWp} {cc : ByteArray} {nL dp n0 n1 pc : Nat} (h : qOk C w RX13 cc nL dp n0 n1) (d : decode cc pc = .ok (.invokestatic 358, 3)) : qCallOk C w nL dp n0 n1 pc 1 0 yX13_isFamily (.code yX13_isFamily cX13_isFamily 1 (some .boolean)) := kindS h d ml_X13_358 im_X13_isFamily in_ParentEveModel co_X13_isFamily yk_X13_isFamily (by decide)
theorem mf_X13_194 : Jvm.Cond.fieldLink RX13 194 (qTb 13 25).1 (qTb 13 25).2.1 (qTb 13 25).2.2.1 ∈ qTw := qm7 (List.mem_of_getElem? (i := 3) (by decide +kernel)) (by decide +kernel)
theorem ff_X13_194_98 : qFd RX13 194 98 13 25 3 := ⟨mf_X13_194, rfl, by decide, rfl⟩
theorem mf_X13_197 : Jvm.Cond.fieldLink RX13 197 (qTb 13 26).1 (qTb 13 26).2.1 (qTb 13 26).2.2.1 ∈ qTw := qm7 (List.mem_of_getElem? (i := 4) (by decide +kernel)) (by decide +kernel)
theorem ff_X13_197_98 : qFd RX13 197 98 13 26 3 := ⟨mf_X13_197, rfl, by decide, rfl⟩
theorem mf_X13_200 : Jvm.Cond.fieldLink RX13 200 (qTb 13 27).1 (qTb 13 27).2.1 (qTb 13 27).2.2.1 ∈ qTw := qm7 (List.mem_of_getElem? (i := 5) (by decide +kernel)) (by decide +kernel)
theorem ff_X13_200_98 : qFd RX13 200 98 13 27 3 := ⟨mf_X13_200, rfl, by decide, rfl⟩
theorem dX13_family_0 : decode cX13_family 0 = .ok (.iload_n 1, 1) := by decide +kernel
theorem dX13_family_1 : decode cX13_family 1 = .ok (.invokestatic 358, 3) := by decide +kernel
theorem dX13_family_4 : decode cX13_family 4 = .ok (.ifCond .eq 24, 3) := by decide +kernel
theorem dX13_family_7 : decode cX13_family 7 = .ok (.iload_n 2, 1) := by decide +kernel
theorem dX13_family_8 : decode cX13_family 8 = .ok (.iload_n 3, 1) := by decide +kernel
theorem dX13_family_9 : decode cX13_family 9 = .ok (.invokestatic 354, 3) := by decide +kernel
theorem dX13_family_12 : decode cX13_family 12 = .ok (.ifCond .eq 16, 3) := by decide +kernel
theorem dX13_family_15 : decode cX13_family 15 = .ok (.iload 4, 2) := by decide +kernel
theorem dX13_family_17 : decode cX13_family 17 = .ok (.i2l, 1) := by decide +kernel
theorem dX13_family_18 : decode cX13_family 18 = .ok (.lconst 0, 1) := by decide +kernel
theorem dX13_family_19 : decode cX13_family 19 = .ok (.ldc2_w 335, 3) := by decide +kernel
theorem dX13_family_22 : decode cX13_family 22 = .ok (.invokestatic 66, 3) := by decide +kernel
theorem dX13_family_25 : decode cX13_family 25 = .ok (.ifCond .ne 6, 3) := by decide +kernel
theorem dX13_family_28 : decode cX13_family 28 = .ok (.bipush (-2), 2) := by decide +kernel
theorem dX13_family_30 : decode cX13_family 30 = .ok (.ireturn, 1) := by decide +kernel
theorem dX13_family_31 : decode cX13_family 31 = .ok (.aload_n 0, 1) := by decide +kernel
theorem dX13_family_32 : decode cX13_family 32 = .ok (.invokevirtual 326, 3) := by decide +kernel
theorem dX13_family_35 : decode cX13_family 35 = .ok (.ifCond .eq 6, 3) := by decide +kernel
theorem dX13_family_38 : decode cX13_family 38 = .ok (.bipush (-4), 2) := by decide +kernel
theorem dX13_family_40 : decode cX13_family 40 = .ok (.ireturn, 1) := by decide +kernel
theorem dX13_family_41 : decode cX13_family 41 = .ok (.aload_n 0, 1) := by decide +kernel
theorem dX13_family_42 : decode cX13_family 42 = .ok (.getfield 194, 3) := by decide +kernel
theorem dX13_family_45 : decode cX13_family 45 = .ok (.iload_n 1, 1) := by decide +kernel
theorem dX13_family_46 : decode cX13_family 46 = .ok (.iload_n 2, 1) := by decide +kernel
theorem dX13_family_47 : decode cX13_family 47 = .ok (.iastore, 1) := by decide +kernel
theorem dX13_family_48 : decode cX13_family 48 = .ok (.aload_n 0, 1) := by decide +kernel
theorem dX13_family_49 : decode cX13_family 49 = .ok (.getfield 197, 3) := by decide +kernel
theorem dX13_family_52 : decode cX13_family 52 = .ok (.iload_n 1, 1) := by decide +kernel
theorem dX13_family_53 : decode cX13_family 53 = .ok (.iload_n 3, 1) := by decide +kernel
theorem dX13_family_54 : decode cX13_family 54 = .ok (.iastore, 1) := by decide +kernel
theorem dX13_family_55 : decode cX13_family 55 = .ok (.aload_n 0, 1) := by decide +kernel
theorem dX13_family_56 : decode cX13_family 56 = .ok (.getfield 200, 3) := by decide +kernel
theorem dX13_family_59 : decode cX13_family 59 = .ok (.iload_n 1, 1) := by decide +kernel
theorem dX13_family_60 : decode cX13_family 60 = .ok (.iload 4, 2) := by decide +kernel
theorem dX13_family_62 : decode cX13_family 62 = .ok (.iastore, 1) := by decide +kernel
theorem dX13_family_63 : decode cX13_family 63 = .ok (.iconst 1, 1) := by decide +kernel
theorem dX13_family_64 : decode cX13_family 64 = .ok (.ireturn, 1) := by decide +kernel
noncomputable def tX13_family_13 : qT (Int32 × qM) :=
  oC (.int (-2 : Int32)) (eI)
noncomputable def wX13_family_13 (k : qM → Option (Int32 × qM)) : qT (Int32 × qM) := fun lo st m => match lo, st with
  | [_, _, _, _, _], [] => k m
  | _, _ => none
set_option maxRecDepth 20000 in
theorem sX13_family_13 {C : qCx} {w : qWp} (h : qOk C w RX13 cX13_family 5 3 155 155) (hm : qMt C (some .int)) (hx : qNx C) : qSnd C w 5 155 (qQf C w 155 155 jI) qfin 155 28 (tX13_family_13) :=
  cB (pc := 28) h dX13_family_28 rfl (zI (pc := 30) h hm (Nat.le_refl _) dX13_family_30)
set_option maxRecDepth 20000 in
theorem lX13_family_13 (m : qM) : tX13_family_13 [none, none, none, none, none] [] m = fX13_family_13 m := rfl
theorem bX13_family_13 {C : qCx} {w : qWp} (h : qOk C w RX13 cX13_family 5 3 155 155) (hm : qMt C (some .int)) (hx : qNx C) : qSnd C w 5 155 (qQf C w 155 155 jI) qfin 155 28 (wX13_family_13 fX13_family_13) :=
  qSnd_of (fun lo st m x hr0 => by
    unfold wX13_family_13 at hr0
    split at hr0
    · exact ⟨_, (qsub_n (qsub_n (qsub_n (qsub_n (qsub_n qsub_nil))))), (lX13_family_13 _).trans hr0⟩
    · cases hr0) (sX13_family_13 h hm hx)
noncomputable def tX13_family_0 (j13 : qT (Int32 × qM)) : qT (Int32 × qM) :=
  oLi 1 (oCi GX13_isFamily 1 (oEq (j13) (oLi 2 (oLi 3 (oCi GX13_areSlots 2 (oEq (j13) (oLi 4 (oI2l (oC (.long (0 : Int64)) (oC (.long (3 : Int64)) (oCi GX13_in 3 (oEq (j13) (oLa 0 (oCi GX13_isFixed 1 (oEq (oLa 0 (oGf 98 25 116 (oLi 1 (oLi 2 (oWi 116 15 (oLa 0 (oGf 98 26 117 (oLi 1 (oLi 3 (oWi 117 15 (oLa 0 (oGf 98 27 118 (oLi 1 (oLi 4 (oWi 118 15 (oC (.int (1 : Int32)) (eI))))))))))))))))) (oC (.int (-4 : Int32)) (eI)))))))))))))))))
set_option maxRecDepth 20000 in
theorem sX13_family_0 {C : qCx} {w : qWp} (h : qOk C w RX13 cX13_family 5 3 155 155) (hm : qMt C (some .int)) (hx : qNx C) {j13 : qT (Int32 × qM)} (k13 : qSnd C w 5 155 (qQf C w 155 155 jI) qfin 155 28 j13) : qSnd C w 5 155 (qQf C w 155 155 jI) qfin 155 0 (tX13_family_0 j13) :=
  cLi (pc := 0) h dX13_family_0 rfl (kCi (pc := 1) h (kd_X13_358 h dX13_family_1) spX13_isFamily (by decide) (by decide) (by decide) (by decide) (jEq (pc := 4) h dX13_family_4 rfl (k13) (cLi (pc := 7) h dX13_family_7 rfl (cLi (pc := 8) h dX13_family_8 rfl (kCi (pc := 9) h (kd_X13_354 h dX13_family_9) spX13_areSlots (by decide) (by decide) (by decide) (by decide) (jEq (pc := 12) h dX13_family_12 rfl (k13) (cLI (pc := 15) h dX13_family_15 (aI2l (pc := 17) h dX13_family_17 (cJ (pc := 18) h dX13_family_18 rfl (cKJ (pc := 19) h dX13_family_19 fc_X13_335 (kCi (pc := 22) h (kd_X13_66 h dX13_family_22) spX13_in (by decide) (by decide) (by decide) (by decide) (jNe (pc := 25) h dX13_family_25 rfl (cLa (pc := 31) h dX13_family_31 rfl (kCi (pc := 32) h (kd_X13_326 h dX13_family_32) spX13_isFixed (by decide) (by decide) (by decide) (by decide) (jEq (pc := 35) h dX13_family_35 rfl (cLa (pc := 41) h dX13_family_41 rfl (gGf (pc := 42) h dX13_family_42 ff_X13_194_98 (Nat.le_of_ble_eq_true rfl) (Nat.le_of_ble_eq_true rfl) rfl (cLi (pc := 45) h dX13_family_45 rfl (cLi (pc := 46) h dX13_family_46 rfl (rWi (pc := 47) h dX13_family_47 rfl (Nat.le_of_ble_eq_true rfl) (Nat.le_of_ble_eq_true rfl) (cLa (pc := 48) h dX13_family_48 rfl (gGf (pc := 49) h dX13_family_49 ff_X13_197_98 (Nat.le_of_ble_eq_true rfl) (Nat.le_of_ble_eq_true rfl) rfl (cLi (pc := 52) h dX13_family_52 rfl (cLi (pc := 53) h dX13_family_53 rfl (rWi (pc := 54) h dX13_family_54 rfl (Nat.le_of_ble_eq_true rfl) (Nat.le_of_ble_eq_true rfl) (cLa (pc := 55) h dX13_family_55 rfl (gGf (pc := 56) h dX13_family_56 ff_X13_200_98 (Nat.le_of_ble_eq_true rfl) (Nat.le_of_ble_eq_true rfl) rfl (cLi (pc := 59) h dX13_family_59 rfl (cLI (pc := 60) h dX13_family_60 (rWi (pc := 62) h dX13_family_62 rfl (Nat.le_of_ble_eq_true rfl) (Nat.le_of_ble_eq_true rfl) (cC (pc := 63) h dX13_family_63 rfl (zI (pc := 64) h hm (Nat.le_refl _) dX13_family_64))))))))))))))))) (cB (pc := 38) h dX13_family_38 rfl (zI (pc := 40) h hm (Nat.le_refl _) dX13_family_40))))) (k13)))))))))))))
set_option maxRecDepth 20000 in
theorem lX13_family_0 (a1 : Int32) (a2 : Int32) (a3 : Int32) (a4 : Int32) (m : qM) : tX13_family_0 (wX13_family_13 fX13_family_13) [some (.ref 98), some (.int a1), some (.int a2), some (.int a3), some (.int a4)] [] m = fX13_family_0 a1 a2 a3 a4 m := rfl
noncomputable def GX13_family : qG Int32 := fun av m => match av with
  | [.ref 98, .int a1, .int a2, .int a3, .int a4] => fX13_family a1 a2 a3 a4 m
  | _ => none
theorem spX13_family : qSpI yX13_family (.code yX13_family cX13_family 5 (some .int)) 3 qfin 155 155 1 GX13_family := by
  intro av m x m' hG
  unfold GX13_family at hG
  split at hG
  · rename_i a1 a2 a3 a4
    rw [fX13_family_d] at hG
    exact ⟨qmeet (J := jI) (r := (x, m')) (av := [.ref 98, .int a1, .int a2, .int a3, .int a4]) (by decide +kernel) (Nat.le_of_ble_eq_true rfl) (fun C w h hm hx hn => sX13_family_0 h hm hx (bX13_family_13 h hm hx)) ((lX13_family_0 _ _ _ _ _).trans hG) (Nat.le_of_ble_eq_true rfl), Or.inl ⟨98, _, 13, _, _, rfl, by decide, rfl, qCk_13, rfl⟩⟩
  · cases hG
theorem mf_X13_203 : Jvm.Cond.fieldLink RX13 203 (qTb 13 28).1 (qTb 13 28).2.1 (qTb 13 28).2.2.1 ∈ qTw := qm7 (List.mem_of_getElem? (i := 6) (by decide +kernel)) (by decide +kernel)
theorem ff_X13_203_98 : qFd RX13 203 98 13 28 3 := ⟨mf_X13_203, rfl, by decide, rfl⟩
theorem mf_X13_206 : Jvm.Cond.fieldLink RX13 206 (qTb 13 29).1 (qTb 13 29).2.1 (qTb 13 29).2.2.1 ∈ qTw := qm7 (List.mem_of_getElem? (i := 7) (by decide +kernel)) (by decide +kernel)
theorem ff_X13_206_98 : qFd RX13 206 98 13 29 3 := ⟨mf_X13_206, rfl, by decide, rfl⟩
theorem mf_X13_209 : Jvm.Cond.fieldLink RX13 209 (qTb 13 30).1 (qTb 13 30).2.1 (qTb 13 30).2.2.1 ∈ qTw := qm7 (List.mem_of_getElem? (i := 8) (by decide +kernel)) (by decide +kernel)
theorem ff_X13_209_98 : qFd RX13 209 98 13 30 3 := ⟨mf_X13_209, rfl, by decide, rfl⟩
theorem dX13_wish_0 : decode cX13_wish 0 = .ok (.iload_n 1, 1) := by decide +kernel
theorem dX13_wish_1 : decode cX13_wish 1 = .ok (.invokestatic 358, 3) := by decide +kernel
theorem dX13_wish_4 : decode cX13_wish 4 = .ok (.ifCond .eq 24, 3) := by decide +kernel
theorem dX13_wish_7 : decode cX13_wish 7 = .ok (.iload_n 2, 1) := by decide +kernel
theorem dX13_wish_8 : decode cX13_wish 8 = .ok (.iload_n 3, 1) := by decide +kernel
theorem dX13_wish_9 : decode cX13_wish 9 = .ok (.invokestatic 354, 3) := by decide +kernel
theorem dX13_wish_12 : decode cX13_wish 12 = .ok (.ifCond .eq 16, 3) := by decide +kernel
theorem dX13_wish_15 : decode cX13_wish 15 = .ok (.iload 4, 2) := by decide +kernel
theorem dX13_wish_17 : decode cX13_wish 17 = .ok (.i2l, 1) := by decide +kernel
theorem dX13_wish_18 : decode cX13_wish 18 = .ok (.lconst 0, 1) := by decide +kernel
theorem dX13_wish_19 : decode cX13_wish 19 = .ok (.ldc2_w 345, 3) := by decide +kernel
theorem dX13_wish_22 : decode cX13_wish 22 = .ok (.invokestatic 66, 3) := by decide +kernel
theorem dX13_wish_25 : decode cX13_wish 25 = .ok (.ifCond .ne 6, 3) := by decide +kernel
theorem dX13_wish_28 : decode cX13_wish 28 = .ok (.bipush (-2), 2) := by decide +kernel
theorem dX13_wish_30 : decode cX13_wish 30 = .ok (.ireturn, 1) := by decide +kernel
theorem dX13_wish_31 : decode cX13_wish 31 = .ok (.aload_n 0, 1) := by decide +kernel
theorem dX13_wish_32 : decode cX13_wish 32 = .ok (.invokevirtual 326, 3) := by decide +kernel
theorem dX13_wish_35 : decode cX13_wish 35 = .ok (.ifCond .eq 6, 3) := by decide +kernel
theorem dX13_wish_38 : decode cX13_wish 38 = .ok (.bipush (-4), 2) := by decide +kernel
theorem dX13_wish_40 : decode cX13_wish 40 = .ok (.ireturn, 1) := by decide +kernel
theorem dX13_wish_41 : decode cX13_wish 41 = .ok (.aload_n 0, 1) := by decide +kernel
theorem dX13_wish_42 : decode cX13_wish 42 = .ok (.getfield 203, 3) := by decide +kernel
theorem dX13_wish_45 : decode cX13_wish 45 = .ok (.iload_n 1, 1) := by decide +kernel
theorem dX13_wish_46 : decode cX13_wish 46 = .ok (.iload_n 2, 1) := by decide +kernel
theorem dX13_wish_47 : decode cX13_wish 47 = .ok (.iastore, 1) := by decide +kernel
theorem dX13_wish_48 : decode cX13_wish 48 = .ok (.aload_n 0, 1) := by decide +kernel
theorem dX13_wish_49 : decode cX13_wish 49 = .ok (.getfield 206, 3) := by decide +kernel
theorem dX13_wish_52 : decode cX13_wish 52 = .ok (.iload_n 1, 1) := by decide +kernel
theorem dX13_wish_53 : decode cX13_wish 53 = .ok (.iload_n 3, 1) := by decide +kernel
theorem dX13_wish_54 : decode cX13_wish 54 = .ok (.iastore, 1) := by decide +kernel
theorem dX13_wish_55 : decode cX13_wish 55 = .ok (.aload_n 0, 1) := by decide +kernel
theorem dX13_wish_56 : decode cX13_wish 56 = .ok (.getfield 209, 3) := by decide +kernel
theorem dX13_wish_59 : decode cX13_wish 59 = .ok (.iload_n 1, 1) := by decide +kernel
theorem dX13_wish_60 : decode cX13_wish 60 = .ok (.iload 4, 2) := by decide +kernel
theorem dX13_wish_62 : decode cX13_wish 62 = .ok (.iastore, 1) := by decide +kernel
theorem dX13_wish_63 : decode cX13_wish 63 = .ok (.iconst 1, 1) := by decide +kernel
theorem dX13_wish_64 : decode cX13_wish 64 = .ok (.ireturn, 1) := by decide +kernel
noncomputable def tX13_wish_13 : qT (Int32 × qM) :=
  oC (.int (-2 : Int32)) (eI)
noncomputable def wX13_wish_13 (k : qM → Option (Int32 × qM)) : qT (Int32 × qM) := fun lo st m => match lo, st with
  | [_, _, _, _, _], [] => k m
  | _, _ => none
set_option maxRecDepth 20000 in
theorem sX13_wish_13 {C : qCx} {w : qWp} (h : qOk C w RX13 cX13_wish 5 3 155 155) (hm : qMt C (some .int)) (hx : qNx C) : qSnd C w 5 155 (qQf C w 155 155 jI) qfin 155 28 (tX13_wish_13) :=
  cB (pc := 28) h dX13_wish_28 rfl (zI (pc := 30) h hm (Nat.le_refl _) dX13_wish_30)
set_option maxRecDepth 20000 in
theorem lX13_wish_13 (m : qM) : tX13_wish_13 [none, none, none, none, none] [] m = fX13_wish_13 m := rfl
theorem bX13_wish_13 {C : qCx} {w : qWp} (h : qOk C w RX13 cX13_wish 5 3 155 155) (hm : qMt C (some .int)) (hx : qNx C) : qSnd C w 5 155 (qQf C w 155 155 jI) qfin 155 28 (wX13_wish_13 fX13_wish_13) :=
  qSnd_of (fun lo st m x hr0 => by
    unfold wX13_wish_13 at hr0
    split at hr0
    · exact ⟨_, (qsub_n (qsub_n (qsub_n (qsub_n (qsub_n qsub_nil))))), (lX13_wish_13 _).trans hr0⟩
    · cases hr0) (sX13_wish_13 h hm hx)
noncomputable def tX13_wish_0 (j13 : qT (Int32 × qM)) : qT (Int32 × qM) :=
  oLi 1 (oCi GX13_isFamily 1 (oEq (j13) (oLi 2 (oLi 3 (oCi GX13_areSlots 2 (oEq (j13) (oLi 4 (oI2l (oC (.long (0 : Int64)) (oC (.long (9 : Int64)) (oCi GX13_in 3 (oEq (j13) (oLa 0 (oCi GX13_isFixed 1 (oEq (oLa 0 (oGf 98 28 119 (oLi 1 (oLi 2 (oWi 119 15 (oLa 0 (oGf 98 29 120 (oLi 1 (oLi 3 (oWi 120 15 (oLa 0 (oGf 98 30 121 (oLi 1 (oLi 4 (oWi 121 15 (oC (.int (1 : Int32)) (eI))))))))))))))))) (oC (.int (-4 : Int32)) (eI)))))))))))))))))
set_option maxRecDepth 20000 in
theorem sX13_wish_0 {C : qCx} {w : qWp} (h : qOk C w RX13 cX13_wish 5 3 155 155) (hm : qMt C (some .int)) (hx : qNx C) {j13 : qT (Int32 × qM)} (k13 : qSnd C w 5 155 (qQf C w 155 155 jI) qfin 155 28 j13) : qSnd C w 5 155 (qQf C w 155 155 jI) qfin 155 0 (tX13_wish_0 j13) :=
  cLi (pc := 0) h dX13_wish_0 rfl (kCi (pc := 1) h (kd_X13_358 h dX13_wish_1) spX13_isFamily (by decide) (by decide) (by decide) (by decide) (jEq (pc := 4) h dX13_wish_4 rfl (k13) (cLi (pc := 7) h dX13_wish_7 rfl (cLi (pc := 8) h dX13_wish_8 rfl (kCi (pc := 9) h (kd_X13_354 h dX13_wish_9) spX13_areSlots (by decide) (by decide) (by decide) (by decide) (jEq (pc := 12) h dX13_wish_12 rfl (k13) (cLI (pc := 15) h dX13_wish_15 (aI2l (pc := 17) h dX13_wish_17 (cJ (pc := 18) h dX13_wish_18 rfl (cKJ (pc := 19) h dX13_wish_19 fc_X13_345 (kCi (pc := 22) h (kd_X13_66 h dX13_wish_22) spX13_in (by decide) (by decide) (by decide) (by decide) (jNe (pc := 25) h dX13_wish_25 rfl (cLa (pc := 31) h dX13_wish_31 rfl (kCi (pc := 32) h (kd_X13_326 h dX13_wish_32) spX13_isFixed (by decide) (by decide) (by decide) (by decide) (jEq (pc := 35) h dX13_wish_35 rfl (cLa (pc := 41) h dX13_wish_41 rfl (gGf (pc := 42) h dX13_wish_42 ff_X13_203_98 (Nat.le_of_ble_eq_true rfl) (Nat.le_of_ble_eq_true rfl) rfl (cLi (pc := 45) h dX13_wish_45 rfl (cLi (pc := 46) h dX13_wish_46 rfl (rWi (pc := 47) h dX13_wish_47 rfl (Nat.le_of_ble_eq_true rfl) (Nat.le_of_ble_eq_true rfl) (cLa (pc := 48) h dX13_wish_48 rfl (gGf (pc := 49) h dX13_wish_49 ff_X13_206_98 (Nat.le_of_ble_eq_true rfl) (Nat.le_of_ble_eq_true rfl) rfl (cLi (pc := 52) h dX13_wish_52 rfl (cLi (pc := 53) h dX13_wish_53 rfl (rWi (pc := 54) h dX13_wish_54 rfl (Nat.le_of_ble_eq_true rfl) (Nat.le_of_ble_eq_true rfl) (cLa (pc := 55) h dX13_wish_55 rfl (gGf (pc := 56) h dX13_wish_56 ff_X13_209_98 (Nat.le_of_ble_eq_true rfl) (Nat.le_of_ble_eq_true rfl) rfl (cLi (pc := 59) h dX13_wish_59 rfl (cLI (pc := 60) h dX13_wish_60 (rWi (pc := 62) h dX13_wish_62 rfl (Nat.le_of_ble_eq_true rfl) (Nat.le_of_ble_eq_true rfl) (cC (pc := 63) h dX13_wish_63 rfl (zI (pc := 64) h hm (Nat.le_refl _) dX13_wish_64))))))))))))))))) (cB (pc := 38) h dX13_wish_38 rfl (zI (pc := 40) h hm (Nat.le_refl _) dX13_wish_40))))) (k13)))))))))))))
set_option maxRecDepth 20000 in
theorem lX13_wish_0 (a1 : Int32) (a2 : Int32) (a3 : Int32) (a4 : Int32) (m : qM) : tX13_wish_0 (wX13_wish_13 fX13_wish_13) [some (.ref 98), some (.int a1), some (.int a2), some (.int a3), some (.int a4)] [] m = fX13_wish_0 a1 a2 a3 a4 m := rfl
noncomputable def GX13_wish : qG Int32 := fun av m => match av with
  | [.ref 98, .int a1, .int a2, .int a3, .int a4] => fX13_wish a1 a2 a3 a4 m
  | _ => none
theorem spX13_wish : qSpI yX13_wish (.code yX13_wish cX13_wish 5 (some .int)) 3 qfin 155 155 1 GX13_wish := by
  intro av m x m' hG
  unfold GX13_wish at hG
  split at hG
  · rename_i a1 a2 a3 a4
    rw [fX13_wish_d] at hG
    exact ⟨qmeet (J := jI) (r := (x, m')) (av := [.ref 98, .int a1, .int a2, .int a3, .int a4]) (by decide +kernel) (Nat.le_of_ble_eq_true rfl) (fun C w h hm hx hn => sX13_wish_0 h hm hx (bX13_wish_13 h hm hx)) ((lX13_wish_0 _ _ _ _ _).trans hG) (Nat.le_of_ble_eq_true rfl), Or.inl ⟨98, _, 13, _, _, rfl, by decide, rfl, qCk_13, rfl⟩⟩
  · cases hG
theorem mf_X13_212 : Jvm.Cond.fieldLink RX13 212 (qTb 13 31).1 (qTb 13 31).2.1 (qTb 13 31).2.2.1 ∈ qTw := qm7 (List.mem_of_getElem? (i := 9) (by decide +kernel)) (by decide +kernel)
theorem ff_X13_212_98 : qFd RX13 212 98 13 31 3 := ⟨mf_X13_212, rfl, by decide, rfl⟩
theorem dX13_apart_0 : decode cX13_apart 0 = .ok (.iload_n 1, 1) := by decide +kernel
theorem dX13_apart_1 : decode cX13_apart 1 = .ok (.invokestatic 358, 3) := by decide +kernel
theorem dX13_apart_4 : decode cX13_apart 4 = .ok (.ifCond .eq 15, 3) := by decide +kernel
theorem dX13_apart_7 : decode cX13_apart 7 = .ok (.iload_n 2, 1) := by decide +kernel
theorem dX13_apart_8 : decode cX13_apart 8 = .ok (.invokestatic 358, 3) := by decide +kernel
theorem dX13_apart_11 : decode cX13_apart 11 = .ok (.ifCond .eq 8, 3) := by decide +kernel
theorem dX13_apart_14 : decode cX13_apart 14 = .ok (.iload_n 1, 1) := by decide +kernel
theorem dX13_apart_15 : decode cX13_apart 15 = .ok (.iload_n 2, 1) := by decide +kernel
theorem dX13_apart_16 : decode cX13_apart 16 = .ok (.if_icmp .ne 6, 3) := by decide +kernel
theorem dX13_apart_19 : decode cX13_apart 19 = .ok (.bipush (-2), 2) := by decide +kernel
theorem dX13_apart_21 : decode cX13_apart 21 = .ok (.ireturn, 1) := by decide +kernel
theorem dX13_apart_22 : decode cX13_apart 22 = .ok (.aload_n 0, 1) := by decide +kernel
theorem dX13_apart_23 : decode cX13_apart 23 = .ok (.invokevirtual 326, 3) := by decide +kernel
theorem dX13_apart_26 : decode cX13_apart 26 = .ok (.ifCond .eq 6, 3) := by decide +kernel
theorem dX13_apart_29 : decode cX13_apart 29 = .ok (.bipush (-4), 2) := by decide +kernel
theorem dX13_apart_31 : decode cX13_apart 31 = .ok (.ireturn, 1) := by decide +kernel
theorem dX13_apart_32 : decode cX13_apart 32 = .ok (.aload_n 0, 1) := by decide +kernel
theorem dX13_apart_33 : decode cX13_apart 33 = .ok (.getfield 212, 3) := by decide +kernel
theorem dX13_apart_36 : decode cX13_apart 36 = .ok (.bipush 15, 2) := by decide +kernel
theorem dX13_apart_38 : decode cX13_apart 38 = .ok (.iload_n 1, 1) := by decide +kernel
theorem dX13_apart_39 : decode cX13_apart 39 = .ok (.imul, 1) := by decide +kernel
theorem dX13_apart_40 : decode cX13_apart 40 = .ok (.iload_n 2, 1) := by decide +kernel
theorem dX13_apart_41 : decode cX13_apart 41 = .ok (.iadd, 1) := by decide +kernel
theorem dX13_apart_42 : decode cX13_apart 42 = .ok (.baload, 1) := by decide +kernel
theorem dX13_apart_43 : decode cX13_apart 43 = .ok (.istore 4, 2) := by decide +kernel
theorem dX13_apart_45 : decode cX13_apart 45 = .ok (.aload_n 0, 1) := by decide +kernel
theorem dX13_apart_46 : decode cX13_apart 46 = .ok (.getfield 212, 3) := by decide +kernel
theorem dX13_apart_49 : decode cX13_apart 49 = .ok (.bipush 15, 2) := by decide +kernel
theorem dX13_apart_51 : decode cX13_apart 51 = .ok (.iload_n 1, 1) := by decide +kernel
theorem dX13_apart_52 : decode cX13_apart 52 = .ok (.imul, 1) := by decide +kernel
theorem dX13_apart_53 : decode cX13_apart 53 = .ok (.iload_n 2, 1) := by decide +kernel
theorem dX13_apart_54 : decode cX13_apart 54 = .ok (.iadd, 1) := by decide +kernel
theorem dX13_apart_55 : decode cX13_apart 55 = .ok (.iload_n 3, 1) := by decide +kernel
theorem dX13_apart_56 : decode cX13_apart 56 = .ok (.bastore, 1) := by decide +kernel
theorem dX13_apart_57 : decode cX13_apart 57 = .ok (.aload_n 0, 1) := by decide +kernel
theorem dX13_apart_58 : decode cX13_apart 58 = .ok (.getfield 212, 3) := by decide +kernel
theorem dX13_apart_61 : decode cX13_apart 61 = .ok (.bipush 15, 2) := by decide +kernel
theorem dX13_apart_63 : decode cX13_apart 63 = .ok (.iload_n 2, 1) := by decide +kernel
theorem dX13_apart_64 : decode cX13_apart 64 = .ok (.imul, 1) := by decide +kernel
theorem dX13_apart_65 : decode cX13_apart 65 = .ok (.iload_n 1, 1) := by decide +kernel
theorem dX13_apart_66 : decode cX13_apart 66 = .ok (.iadd, 1) := by decide +kernel
theorem dX13_apart_67 : decode cX13_apart 67 = .ok (.iload_n 3, 1) := by decide +kernel
theorem dX13_apart_68 : decode cX13_apart 68 = .ok (.bastore, 1) := by decide +kernel
theorem dX13_apart_69 : decode cX13_apart 69 = .ok (.iload 4, 2) := by decide +kernel
theorem dX13_apart_71 : decode cX13_apart 71 = .ok (.iload_n 3, 1) := by decide +kernel
theorem dX13_apart_72 : decode cX13_apart 72 = .ok (.if_icmp .ne 7, 3) := by decide +kernel
theorem dX13_apart_75 : decode cX13_apart 75 = .ok (.iconst 0, 1) := by decide +kernel
theorem dX13_apart_76 : decode cX13_apart 76 = .ok (.goto 4, 3) := by decide +kernel
theorem dX13_apart_79 : decode cX13_apart 79 = .ok (.iconst 1, 1) := by decide +kernel
theorem dX13_apart_80 : decode cX13_apart 80 = .ok (.ireturn, 1) := by decide +kernel
noncomputable def tX13_apart_9 : qT (Int32 × qM) :=
  oC (.int (-2 : Int32)) (eI)
noncomputable def wX13_apart_9 (k : qM → Option (Int32 × qM)) : qT (Int32 × qM) := fun lo st m => match lo, st with
  | [_, _, _, _, _], [] => k m
  | _, _ => none
set_option maxRecDepth 20000 in
theorem sX13_apart_9 {C : qCx} {w : qWp} (h : qOk C w RX13 cX13_apart 5 2 155 155) (hm : qMt C (some .int)) (hx : qNx C) : qSnd C w 5 155 (qQf C w 155 155 jI) qfin 155 19 (tX13_apart_9) :=
  cB (pc := 19) h dX13_apart_19 rfl (zI (pc := 21) h hm (Nat.le_refl _) dX13_apart_21)
set_option maxRecDepth 20000 in
theorem lX13_apart_9 (m : qM) : tX13_apart_9 [none, none, none, none, none] [] m = fX13_apart_9 m := rfl
theorem bX13_apart_9 {C : qCx} {w : qWp} (h : qOk C w RX13 cX13_apart 5 2 155 155) (hm : qMt C (some .int)) (hx : qNx C) : qSnd C w 5 155 (qQf C w 155 155 jI) qfin 155 19 (wX13_apart_9 fX13_apart_9) :=
  qSnd_of (fun lo st m x hr0 => by
    unfold wX13_apart_9 at hr0
    split at hr0
    · exact ⟨_, (qsub_n (qsub_n (qsub_n (qsub_n (qsub_n qsub_nil))))), (lX13_apart_9 _).trans hr0⟩
    · cases hr0) (sX13_apart_9 h hm hx)
noncomputable def tX13_apart_49 : qT (Int32 × qM) :=
  eI
noncomputable def wX13_apart_49 (k : Int32 → qM → Option (Int32 × qM)) : qT (Int32 × qM) := fun lo st m => match lo, st with
  | [_, _, _, _, _], [.int s0] => k s0 m
  | _, _ => none
set_option maxRecDepth 20000 in
theorem sX13_apart_49 {C : qCx} {w : qWp} (h : qOk C w RX13 cX13_apart 5 2 155 155) (hm : qMt C (some .int)) (hx : qNx C) : qSnd C w 5 155 (qQf C w 155 155 jI) qfin 155 80 (tX13_apart_49) :=
  zI (pc := 80) h hm (Nat.le_refl _) dX13_apart_80
set_option maxRecDepth 20000 in
theorem lX13_apart_49 (s0 : Int32) (m : qM) : tX13_apart_49 [none, none, none, none, none] [(.int s0)] m = fX13_apart_49 s0 m := rfl
theorem bX13_apart_49 {C : qCx} {w : qWp} (h : qOk C w RX13 cX13_apart 5 2 155 155) (hm : qMt C (some .int)) (hx : qNx C) : qSnd C w 5 155 (qQf C w 155 155 jI) qfin 155 80 (wX13_apart_49 fX13_apart_49) :=
  qSnd_of (fun lo st m x hr0 => by
    unfold wX13_apart_49 at hr0
    split at hr0
    · exact ⟨_, (qsub_n (qsub_n (qsub_n (qsub_n (qsub_n qsub_nil))))), (lX13_apart_49 _ _).trans hr0⟩
    · cases hr0) (sX13_apart_49 h hm hx)
noncomputable def tX13_apart_0 (j9 : qT (Int32 × qM)) (j49 : qT (Int32 × qM)) : qT (Int32 × qM) :=
  oLi 1 (oCi GX13_isFamily 1 (oEq (j9) (oLi 2 (oCi GX13_isFamily 1 (oEq (j9) (oLi 1 (oLi 2 (oCEq (j9) (oLa 0 (oCi GX13_isFixed 1 (oEq (oLa 0 (oGf 98 31 122 (oC (.int (15 : Int32)) (oLi 1 (o2 (· * ·) (oLi 2 (o2 (· + ·) (oAi 122 225 (oSi 4 (oLa 0 (oGf 98 31 122 (oC (.int (15 : Int32)) (oLi 1 (o2 (· * ·) (oLi 2 (o2 (· + ·) (oLi 3 (oWz 122 225 (oLa 0 (oGf 98 31 122 (oC (.int (15 : Int32)) (oLi 2 (o2 (· * ·) (oLi 1 (o2 (· + ·) (oLi 3 (oWz 122 225 (oLi 4 (oLi 3 (oCEq (oC (.int (0 : Int32)) (j49)) (oC (.int (1 : Int32)) (j49)))))))))))))))))))))))))))))))) (oC (.int (-4 : Int32)) (eI)))))))))))))
set_option maxRecDepth 20000 in
theorem sX13_apart_0 {C : qCx} {w : qWp} (h : qOk C w RX13 cX13_apart 5 2 155 155) (hm : qMt C (some .int)) (hx : qNx C) {j9 : qT (Int32 × qM)} {j49 : qT (Int32 × qM)} (k9 : qSnd C w 5 155 (qQf C w 155 155 jI) qfin 155 19 j9) (k49 : qSnd C w 5 155 (qQf C w 155 155 jI) qfin 155 80 j49) : qSnd C w 5 155 (qQf C w 155 155 jI) qfin 155 0 (tX13_apart_0 j9 j49) :=
  cLi (pc := 0) h dX13_apart_0 rfl (kCi (pc := 1) h (kd_X13_358 h dX13_apart_1) spX13_isFamily (by decide) (by decide) (by decide) (by decide) (jEq (pc := 4) h dX13_apart_4 rfl (k9) (cLi (pc := 7) h dX13_apart_7 rfl (kCi (pc := 8) h (kd_X13_358 h dX13_apart_8) spX13_isFamily (by decide) (by decide) (by decide) (by decide) (jEq (pc := 11) h dX13_apart_11 rfl (k9) (cLi (pc := 14) h dX13_apart_14 rfl (cLi (pc := 15) h dX13_apart_15 rfl (jCNe (pc := 16) h dX13_apart_16 rfl (cLa (pc := 22) h dX13_apart_22 rfl (kCi (pc := 23) h (kd_X13_326 h dX13_apart_23) spX13_isFixed (by decide) (by decide) (by decide) (by decide) (jEq (pc := 26) h dX13_apart_26 rfl (cLa (pc := 32) h dX13_apart_32 rfl (gGf (pc := 33) h dX13_apart_33 ff_X13_212_98 (Nat.le_of_ble_eq_true rfl) (Nat.le_of_ble_eq_true rfl) rfl (cB (pc := 36) h dX13_apart_36 rfl (cLi (pc := 38) h dX13_apart_38 rfl (aMul (pc := 39) h dX13_apart_39 (cLi (pc := 40) h dX13_apart_40 rfl (aAdd (pc := 41) h dX13_apart_41 (rAz (pc := 42) h dX13_apart_42 rfl (Nat.le_of_ble_eq_true rfl) (Nat.le_of_ble_eq_true rfl) (cSI (pc := 43) h dX13_apart_43 (cLa (pc := 45) h dX13_apart_45 rfl (gGf (pc := 46) h dX13_apart_46 ff_X13_212_98 (Nat.le_of_ble_eq_true rfl) (Nat.le_of_ble_eq_true rfl) rfl (cB (pc := 49) h dX13_apart_49 rfl (cLi (pc := 51) h dX13_apart_51 rfl (aMul (pc := 52) h dX13_apart_52 (cLi (pc := 53) h dX13_apart_53 rfl (aAdd (pc := 54) h dX13_apart_54 (cLi (pc := 55) h dX13_apart_55 rfl (rWz (pc := 56) h dX13_apart_56 rfl (Nat.le_of_ble_eq_true rfl) (Nat.le_of_ble_eq_true rfl) (cLa (pc := 57) h dX13_apart_57 rfl (gGf (pc := 58) h dX13_apart_58 ff_X13_212_98 (Nat.le_of_ble_eq_true rfl) (Nat.le_of_ble_eq_true rfl) rfl (cB (pc := 61) h dX13_apart_61 rfl (cLi (pc := 63) h dX13_apart_63 rfl (aMul (pc := 64) h dX13_apart_64 (cLi (pc := 65) h dX13_apart_65 rfl (aAdd (pc := 66) h dX13_apart_66 (cLi (pc := 67) h dX13_apart_67 rfl (rWz (pc := 68) h dX13_apart_68 rfl (Nat.le_of_ble_eq_true rfl) (Nat.le_of_ble_eq_true rfl) (cLI (pc := 69) h dX13_apart_69 (cLi (pc := 71) h dX13_apart_71 rfl (jCNe (pc := 72) h dX13_apart_72 rfl (cC (pc := 79) h dX13_apart_79 rfl (k49)) (cC (pc := 75) h dX13_apart_75 rfl (jGo (pc := 76) h dX13_apart_76 rfl (k49))))))))))))))))))))))))))))))))) (cB (pc := 29) h dX13_apart_29 rfl (zI (pc := 31) h hm (Nat.le_refl _) dX13_apart_31))))) (k9)))))))))
set_option maxRecDepth 20000 in
theorem lX13_apart_0 (a1 : Int32) (a2 : Int32) (a3 : Int32) (m : qM) : tX13_apart_0 (wX13_apart_9 fX13_apart_9) (wX13_apart_49 fX13_apart_49) [some (.ref 98), some (.int a1), some (.int a2), some (.int a3), none] [] m = fX13_apart_0 a1 a2 a3 m := rfl
noncomputable def GX13_apart : qG Int32 := fun av m => match av with
  | [.ref 98, .int a1, .int a2, .int a3] => fX13_apart a1 a2 a3 m
  | _ => none
theorem spX13_apart : qSpI yX13_apart (.code yX13_apart cX13_apart 5 (some .int)) 2 qfin 155 155 1 GX13_apart := by
  intro av m x m' hG
  unfold GX13_apart at hG
  split at hG
  · rename_i a1 a2 a3
    rw [fX13_apart_d] at hG
    exact ⟨qmeet (J := jI) (r := (x, m')) (av := [.ref 98, .int a1, .int a2, .int a3]) (by decide +kernel) (Nat.le_of_ble_eq_true rfl) (fun C w h hm hx hn => sX13_apart_0 h hm hx (bX13_apart_9 h hm hx) (bX13_apart_49 h hm hx)) ((lX13_apart_0 _ _ _ _).trans hG) (Nat.le_of_ble_eq_true rfl), Or.inl ⟨98, _, 13, _, _, rfl, by decide, rfl, qCk_13, rfl⟩⟩
  · cases hG
theorem ml_X13_361 : Jvm.Cond.methodLink RX13 361 yJ9_abs_0f7a4 ∈ qTw := qm8 (List.mem_of_getElem? (i := 141) (by decide +kernel)) (by decide +kernel)
theorem kd_X13_361 {C : qCx} {w : qWp} {cc : ByteArray} {nL dp n0 n1 pc : Nat} (h : qOk C w RX13 cc nL dp n0 n1) (d : decode cc pc = .ok (.invokestatic 361, 3)) : qCallOk C w nL dp n0 n1 pc 1 0 yJ9_abs_0f7a4 (.code yJ9_abs_0f7a4 cJ9_abs_0f7a4 1 (some .int)) := kindS h d ml_X13_361 im_J9_abs_0f7a4 in_java_lang_Math co_J9_abs_0f7a4 yk_J9_abs_0f7a4 (by decide)
theorem dX13_walkOf_0 : decode cX13_walkOf 0 = .ok (.aload_n 0, 1) := by decide +kernel
theorem dX13_walkOf_1 : decode cX13_walkOf 1 = .ok (.getfield 183, 3) := by decide +kernel
theorem dX13_walkOf_4 : decode cX13_walkOf 4 = .ok (.iload_n 1, 1) := by decide +kernel
theorem dX13_walkOf_5 : decode cX13_walkOf 5 = .ok (.iaload, 1) := by decide +kernel
theorem dX13_walkOf_6 : decode cX13_walkOf 6 = .ok (.aload_n 0, 1) := by decide +kernel
theorem dX13_walkOf_7 : decode cX13_walkOf 7 = .ok (.getfield 183, 3) := by decide +kernel
theorem dX13_walkOf_10 : decode cX13_walkOf 10 = .ok (.iload_n 2, 1) := by decide +kernel
theorem dX13_walkOf_11 : decode cX13_walkOf 11 = .ok (.iaload, 1) := by decide +kernel
theorem dX13_walkOf_12 : decode cX13_walkOf 12 = .ok (.if_icmp .ne 18, 3) := by decide +kernel
theorem dX13_walkOf_15 : decode cX13_walkOf 15 = .ok (.aload_n 0, 1) := by decide +kernel
theorem dX13_walkOf_16 : decode cX13_walkOf 16 = .ok (.getfield 186, 3) := by decide +kernel
theorem dX13_walkOf_19 : decode cX13_walkOf 19 = .ok (.iload_n 1, 1) := by decide +kernel
theorem dX13_walkOf_20 : decode cX13_walkOf 20 = .ok (.iaload, 1) := by decide +kernel
theorem dX13_walkOf_21 : decode cX13_walkOf 21 = .ok (.aload_n 0, 1) := by decide +kernel
theorem dX13_walkOf_22 : decode cX13_walkOf 22 = .ok (.getfield 186, 3) := by decide +kernel
theorem dX13_walkOf_25 : decode cX13_walkOf 25 = .ok (.iload_n 2, 1) := by decide +kernel
theorem dX13_walkOf_26 : decode cX13_walkOf 26 = .ok (.iaload, 1) := by decide +kernel
theorem dX13_walkOf_27 : decode cX13_walkOf 27 = .ok (.if_icmp .eq 7, 3) := by decide +kernel
theorem dX13_walkOf_30 : decode cX13_walkOf 30 = .ok (.iconst 1, 1) := by decide +kernel
theorem dX13_walkOf_31 : decode cX13_walkOf 31 = .ok (.goto 4, 3) := by decide +kernel
theorem dX13_walkOf_34 : decode cX13_walkOf 34 = .ok (.iconst 0, 1) := by decide +kernel
theorem dX13_walkOf_35 : decode cX13_walkOf 35 = .ok (.istore_n 3, 1) := by decide +kernel
theorem dX13_walkOf_36 : decode cX13_walkOf 36 = .ok (.aload_n 0, 1) := by decide +kernel
theorem dX13_walkOf_37 : decode cX13_walkOf 37 = .ok (.getfield 174, 3) := by decide +kernel
theorem dX13_walkOf_40 : decode cX13_walkOf 40 = .ok (.iconst 1, 1) := by decide +kernel
theorem dX13_walkOf_41 : decode cX13_walkOf 41 = .ok (.iaload, 1) := by decide +kernel
theorem dX13_walkOf_42 : decode cX13_walkOf 42 = .ok (.aload_n 0, 1) := by decide +kernel
theorem dX13_walkOf_43 : decode cX13_walkOf 43 = .ok (.getfield 186, 3) := by decide +kernel
theorem dX13_walkOf_46 : decode cX13_walkOf 46 = .ok (.iload_n 1, 1) := by decide +kernel
theorem dX13_walkOf_47 : decode cX13_walkOf 47 = .ok (.iaload, 1) := by decide +kernel
theorem dX13_walkOf_48 : decode cX13_walkOf 48 = .ok (.aload_n 0, 1) := by decide +kernel
theorem dX13_walkOf_49 : decode cX13_walkOf 49 = .ok (.getfield 186, 3) := by decide +kernel
theorem dX13_walkOf_52 : decode cX13_walkOf 52 = .ok (.iload_n 2, 1) := by decide +kernel
theorem dX13_walkOf_53 : decode cX13_walkOf 53 = .ok (.iaload, 1) := by decide +kernel
theorem dX13_walkOf_54 : decode cX13_walkOf 54 = .ok (.isub, 1) := by decide +kernel
theorem dX13_walkOf_55 : decode cX13_walkOf 55 = .ok (.invokestatic 361, 3) := by decide +kernel
theorem dX13_walkOf_58 : decode cX13_walkOf 58 = .ok (.imul, 1) := by decide +kernel
theorem dX13_walkOf_59 : decode cX13_walkOf 59 = .ok (.iload_n 3, 1) := by decide +kernel
theorem dX13_walkOf_60 : decode cX13_walkOf 60 = .ok (.ifCond .eq 12, 3) := by decide +kernel
theorem dX13_walkOf_63 : decode cX13_walkOf 63 = .ok (.aload_n 0, 1) := by decide +kernel
theorem dX13_walkOf_64 : decode cX13_walkOf 64 = .ok (.getfield 174, 3) := by decide +kernel
theorem dX13_walkOf_67 : decode cX13_walkOf 67 = .ok (.iconst 2, 1) := by decide +kernel
theorem dX13_walkOf_68 : decode cX13_walkOf 68 = .ok (.iaload, 1) := by decide +kernel
theorem dX13_walkOf_69 : decode cX13_walkOf 69 = .ok (.goto 4, 3) := by decide +kernel
theorem dX13_walkOf_72 : decode cX13_walkOf 72 = .ok (.iconst 0, 1) := by decide +kernel
theorem dX13_walkOf_73 : decode cX13_walkOf 73 = .ok (.iadd, 1) := by decide +kernel
theorem dX13_walkOf_74 : decode cX13_walkOf 74 = .ok (.ireturn, 1) := by decide +kernel
noncomputable def tX13_walkOf_45 : qT (Int32 × qM) :=
  o2 (· + ·) (eI)
noncomputable def wX13_walkOf_45 (k : Int32 → Int32 → qM → Option (Int32 × qM)) : qT (Int32 × qM) := fun lo st m => match lo, st with
  | [_, _, _, _], [.int s0, .int s1] => k s0 s1 m
  | _, _ => none
set_option maxRecDepth 20000 in
theorem sX13_walkOf_45 {C : qCx} {w : qWp} (h : qOk C w RX13 cX13_walkOf 4 1 155 155) (hm : qMt C (some .int)) (hx : qNx C) : qSnd C w 4 155 (qQf C w 155 155 jI) qfin 155 73 (tX13_walkOf_45) :=
  aAdd (pc := 73) h dX13_walkOf_73 (zI (pc := 74) h hm (Nat.le_refl _) dX13_walkOf_74)
set_option maxRecDepth 20000 in
theorem lX13_walkOf_45 (s0 : Int32) (s1 : Int32) (m : qM) : tX13_walkOf_45 [none, none, none, none] [(.int s0), (.int s1)] m = fX13_walkOf_45 s0 s1 m := rfl
theorem bX13_walkOf_45 {C : qCx} {w : qWp} (h : qOk C w RX13 cX13_walkOf 4 1 155 155) (hm : qMt C (some .int)) (hx : qNx C) : qSnd C w 4 155 (qQf C w 155 155 jI) qfin 155 73 (wX13_walkOf_45 fX13_walkOf_45) :=
  qSnd_of (fun lo st m x hr0 => by
    unfold wX13_walkOf_45 at hr0
    split at hr0
    · exact ⟨_, (qsub_n (qsub_n (qsub_n (qsub_n qsub_nil)))), (lX13_walkOf_45 _ _ _).trans hr0⟩
    · cases hr0) (sX13_walkOf_45 h hm hx)
noncomputable def tX13_walkOf_21 (j45 : qT (Int32 × qM)) : qT (Int32 × qM) :=
  oSi 3 (oLa 0 (oGf 98 0 99 (oC (.int (1 : Int32)) (oAi 99 6 (oLa 0 (oGf 98 22 113 (oLi 1 (oAi 113 10 (oLa 0 (oGf 98 22 113 (oLi 2 (oAi 113 10 (o2 (· - ·) (oCi GJ9_abs_0f7a4 1 (o2 (· * ·) (oLi 3 (oEq (oC (.int (0 : Int32)) (j45)) (oLa 0 (oGf 98 0 99 (oC (.int (2 : Int32)) (oAi 99 6 (j45))))))))))))))))))))))
noncomputable def wX13_walkOf_21 (k : Int32 → Int32 → Int32 → qM → Option (Int32 × qM)) : qT (Int32 × qM) := fun lo st m => match lo, st with
  | [some (.ref 98), some (.int a1), some (.int a2), _], [.int s0] => k a1 a2 s0 m
  | _, _ => none
set_option maxRecDepth 20000 in
theorem sX13_walkOf_21 {C : qCx} {w : qWp} (h : qOk C w RX13 cX13_walkOf 4 1 155 155) (hm : qMt C (some .int)) (hx : qNx C) {j45 : qT (Int32 × qM)} (k45 : qSnd C w 4 155 (qQf C w 155 155 jI) qfin 155 73 j45) : qSnd C w 4 155 (qQf C w 155 155 jI) qfin 155 35 (tX13_walkOf_21 j45) :=
  cSi (pc := 35) h dX13_walkOf_35 rfl (cLa (pc := 36) h dX13_walkOf_36 rfl (gGf (pc := 37) h dX13_walkOf_37 ff_X13_174_98 (Nat.le_of_ble_eq_true rfl) (Nat.le_of_ble_eq_true rfl) rfl (cC (pc := 40) h dX13_walkOf_40 rfl (rAi (pc := 41) h dX13_walkOf_41 rfl (Nat.le_of_ble_eq_true rfl) (Nat.le_of_ble_eq_true rfl) (cLa (pc := 42) h dX13_walkOf_42 rfl (gGf (pc := 43) h dX13_walkOf_43 ff_X13_186_98 (Nat.le_of_ble_eq_true rfl) (Nat.le_of_ble_eq_true rfl) rfl (cLi (pc := 46) h dX13_walkOf_46 rfl (rAi (pc := 47) h dX13_walkOf_47 rfl (Nat.le_of_ble_eq_true rfl) (Nat.le_of_ble_eq_true rfl) (cLa (pc := 48) h dX13_walkOf_48 rfl (gGf (pc := 49) h dX13_walkOf_49 ff_X13_186_98 (Nat.le_of_ble_eq_true rfl) (Nat.le_of_ble_eq_true rfl) rfl (cLi (pc := 52) h dX13_walkOf_52 rfl (rAi (pc := 53) h dX13_walkOf_53 rfl (Nat.le_of_ble_eq_true rfl) (Nat.le_of_ble_eq_true rfl) (aSub (pc := 54) h dX13_walkOf_54 (kCi (pc := 55) h (kd_X13_361 h dX13_walkOf_55) spJ9_abs_0f7a4 (by decide) (by decide) (by decide) (by decide) (aMul (pc := 58) h dX13_walkOf_58 (cLi (pc := 59) h dX13_walkOf_59 rfl (jEq (pc := 60) h dX13_walkOf_60 rfl (cC (pc := 72) h dX13_walkOf_72 rfl (k45)) (cLa (pc := 63) h dX13_walkOf_63 rfl (gGf (pc := 64) h dX13_walkOf_64 ff_X13_174_98 (Nat.le_of_ble_eq_true rfl) (Nat.le_of_ble_eq_true rfl) rfl (cC (pc := 67) h dX13_walkOf_67 rfl (rAi (pc := 68) h dX13_walkOf_68 rfl (Nat.le_of_ble_eq_true rfl) (Nat.le_of_ble_eq_true rfl) (jGo (pc := 69) h dX13_walkOf_69 rfl (k45)))))))))))))))))))))))
set_option maxRecDepth 20000 in
theorem lX13_walkOf_21 (a1 : Int32) (a2 : Int32) (s0 : Int32) (m : qM) : tX13_walkOf_21 (wX13_walkOf_45 fX13_walkOf_45) [some (.ref 98), some (.int a1), some (.int a2), none] [(.int s0)] m = fX13_walkOf_21 a1 a2 s0 m := rfl
theorem bX13_walkOf_21 {C : qCx} {w : qWp} (h : qOk C w RX13 cX13_walkOf 4 1 155 155) (hm : qMt C (some .int)) (hx : qNx C) : qSnd C w 4 155 (qQf C w 155 155 jI) qfin 155 35 (wX13_walkOf_21 fX13_walkOf_21) :=
  qSnd_of (fun lo st m x hr0 => by
    unfold wX13_walkOf_21 at hr0
    split at hr0
    · exact ⟨_, (qsub_e (qsub_e (qsub_e (qsub_n qsub_nil)))), (lX13_walkOf_21 _ _ _ _).trans hr0⟩
    · cases hr0) (sX13_walkOf_21 h hm hx (bX13_walkOf_45 h hm hx))
noncomputable def tX13_walkOf_18 (j21 : qT (Int32 × qM)) : qT (Int32 × qM) :=
  oC (.int (1 : Int32)) (j21)
noncomputable def wX13_walkOf_18 (k : Int32 → Int32 → qM → Option (Int32 × qM)) : qT (Int32 × qM) := fun lo st m => match lo, st with
  | [some (.ref 98), some (.int a1), some (.int a2), _], [] => k a1 a2 m
  | _, _ => none
set_option maxRecDepth 20000 in
theorem sX13_walkOf_18 {C : qCx} {w : qWp} (h : qOk C w RX13 cX13_walkOf 4 1 155 155) (hm : qMt C (some .int)) (hx : qNx C) {j21 : qT (Int32 × qM)} (k21 : qSnd C w 4 155 (qQf C w 155 155 jI) qfin 155 35 j21) : qSnd C w 4 155 (qQf C w 155 155 jI) qfin 155 30 (tX13_walkOf_18 j21) :=
  cC (pc := 30) h dX13_walkOf_30 rfl (jGo (pc := 31) h dX13_walkOf_31 rfl (k21))
set_option maxRecDepth 20000 in
theorem lX13_walkOf_18 (a1 : Int32) (a2 : Int32) (m : qM) : tX13_walkOf_18 (wX13_walkOf_21 fX13_walkOf_21) [some (.ref 98), some (.int a1), some (.int a2), none] [] m = fX13_walkOf_18 a1 a2 m := rfl
theorem bX13_walkOf_18 {C : qCx} {w : qWp} (h : qOk C w RX13 cX13_walkOf 4 1 155 155) (hm : qMt C (some .int)) (hx : qNx C) : qSnd C w 4 155 (qQf C w 155 155 jI) qfin 155 30 (wX13_walkOf_18 fX13_walkOf_18) :=
  qSnd_of (fun lo st m x hr0 => by
    unfold wX13_walkOf_18 at hr0
    split at hr0
    · exact ⟨_, (qsub_e (qsub_e (qsub_e (qsub_n qsub_nil)))), (lX13_walkOf_18 _ _ _).trans hr0⟩
    · cases hr0) (sX13_walkOf_18 h hm hx (bX13_walkOf_21 h hm hx))
noncomputable def tX13_walkOf_0 (j18 : qT (Int32 × qM)) (j21 : qT (Int32 × qM)) : qT (Int32 × qM) :=
  oLa 0 (oGf 98 21 112 (oLi 1 (oAi 112 10 (oLa 0 (oGf 98 21 112 (oLi 2 (oAi 112 10 (oCEq (oLa 0 (oGf 98 22 113 (oLi 1 (oAi 113 10 (oLa 0 (oGf 98 22 113 (oLi 2 (oAi 113 10 (oCEq (oC (.int (0 : Int32)) (j21)) (j18)))))))))) (j18)))))))))
set_option maxRecDepth 20000 in
theorem sX13_walkOf_0 {C : qCx} {w : qWp} (h : qOk C w RX13 cX13_walkOf 4 1 155 155) (hm : qMt C (some .int)) (hx : qNx C) {j18 : qT (Int32 × qM)} {j21 : qT (Int32 × qM)} (k18 : qSnd C w 4 155 (qQf C w 155 155 jI) qfin 155 30 j18) (k21 : qSnd C w 4 155 (qQf C w 155 155 jI) qfin 155 35 j21) : qSnd C w 4 155 (qQf C w 155 155 jI) qfin 155 0 (tX13_walkOf_0 j18 j21) :=
  cLa (pc := 0) h dX13_walkOf_0 rfl (gGf (pc := 1) h dX13_walkOf_1 ff_X13_183_98 (Nat.le_of_ble_eq_true rfl) (Nat.le_of_ble_eq_true rfl) rfl (cLi (pc := 4) h dX13_walkOf_4 rfl (rAi (pc := 5) h dX13_walkOf_5 rfl (Nat.le_of_ble_eq_true rfl) (Nat.le_of_ble_eq_true rfl) (cLa (pc := 6) h dX13_walkOf_6 rfl (gGf (pc := 7) h dX13_walkOf_7 ff_X13_183_98 (Nat.le_of_ble_eq_true rfl) (Nat.le_of_ble_eq_true rfl) rfl (cLi (pc := 10) h dX13_walkOf_10 rfl (rAi (pc := 11) h dX13_walkOf_11 rfl (Nat.le_of_ble_eq_true rfl) (Nat.le_of_ble_eq_true rfl) (jCNe (pc := 12) h dX13_walkOf_12 rfl (k18) (cLa (pc := 15) h dX13_walkOf_15 rfl (gGf (pc := 16) h dX13_walkOf_16 ff_X13_186_98 (Nat.le_of_ble_eq_true rfl) (Nat.le_of_ble_eq_true rfl) rfl (cLi (pc := 19) h dX13_walkOf_19 rfl (rAi (pc := 20) h dX13_walkOf_20 rfl (Nat.le_of_ble_eq_true rfl) (Nat.le_of_ble_eq_true rfl) (cLa (pc := 21) h dX13_walkOf_21 rfl (gGf (pc := 22) h dX13_walkOf_22 ff_X13_186_98 (Nat.le_of_ble_eq_true rfl) (Nat.le_of_ble_eq_true rfl) rfl (cLi (pc := 25) h dX13_walkOf_25 rfl (rAi (pc := 26) h dX13_walkOf_26 rfl (Nat.le_of_ble_eq_true rfl) (Nat.le_of_ble_eq_true rfl) (jCEq (pc := 27) h dX13_walkOf_27 rfl (cC (pc := 34) h dX13_walkOf_34 rfl (k21)) (k18))))))))))))))))))
set_option maxRecDepth 20000 in
theorem lX13_walkOf_0 (a1 : Int32) (a2 : Int32) (m : qM) : tX13_walkOf_0 (wX13_walkOf_18 fX13_walkOf_18) (wX13_walkOf_21 fX13_walkOf_21) [some (.ref 98), some (.int a1), some (.int a2), none] [] m = fX13_walkOf_0 a1 a2 m := rfl
noncomputable def GX13_walkOf : qG Int32 := fun av m => match av with
  | [.ref 98, .int a1, .int a2] => fX13_walkOf a1 a2 m
  | _ => none
theorem spX13_walkOf : qSpI yX13_walkOf (.code yX13_walkOf cX13_walkOf 4 (some .int)) 1 qfin 155 155 1 GX13_walkOf := by
  intro av m x m' hG
  unfold GX13_walkOf at hG
  split at hG
  · rename_i a1 a2
    rw [fX13_walkOf_d] at hG
    exact ⟨qmeet (J := jI) (r := (x, m')) (av := [.ref 98, .int a1, .int a2]) (by decide +kernel) (Nat.le_of_ble_eq_true rfl) (fun C w h hm hx hn => sX13_walkOf_0 h hm hx (bX13_walkOf_18 h hm hx) (bX13_walkOf_21 h hm hx)) ((lX13_walkOf_0 _ _ _).trans hG) (Nat.le_of_ble_eq_true rfl), Or.inl ⟨98, _, 13, _, _, rfl, by decide, rfl, qCk_13, rfl⟩⟩
  · cases hG
theorem im_X13_walkOf : Jvm.Cond.instanceMethod yX13_walkOf ∈ qTw := qm8 (List.mem_of_getElem? (i := 139) (by decide +kernel)) (by decide +kernel)
theorem se_X13_walkOf : Jvm.Cond.selects yX13_walkOf.cls yX13_walkOf yX13_walkOf ∈ qTw := List.mem_filter.mpr ⟨List.mem_append_left _ (List.mem_of_getElem? (i := 52) (by decide +kernel)), rfl⟩
theorem co_X13_walkOf : Jvm.Cond.code yX13_walkOf cX13_walkOf 4 (some .int) ∈ qTw := qm8 (List.mem_of_getElem? (i := 140) (by decide +kernel)) (by decide +kernel)
theorem yk_X13_walkOf : qYk yX13_walkOf 2 := ⟨⟨by decide +kernel, by decide +kernel⟩, by decide +kernel⟩
theorem ml_X13_366 : Jvm.Cond.methodLink RX13 366 yX13_walkOf ∈ qTw := qm8 (List.mem_of_getElem? (i := 137) (by decide +kernel)) (by decide +kernel)
theorem kd_X13_366 {C : qCx} {w : qWp} {cc : ByteArray} {nL dp n0 n1 pc : Nat} (h : qOk C w RX13 cc nL dp n0 n1) (d : decode cc pc = .ok (.invokevirtual 366, 3)) : qCallOk C w nL dp n0 n1 pc 3 1 yX13_walkOf (.code yX13_walkOf cX13_walkOf 4 (some .int)) := kindV h d ml_X13_366 im_X13_walkOf se_X13_walkOf in_ParentEveModel co_X13_walkOf yk_X13_walkOf (by decide)
theorem dX13_walk_0 : decode cX13_walk 0 = .ok (.iload_n 1, 1) := by decide +kernel
theorem dX13_walk_1 : decode cX13_walk 1 = .ok (.invokestatic 340, 3) := by decide +kernel
theorem dX13_walk_4 : decode cX13_walk 4 = .ok (.ifCond .eq 19, 3) := by decide +kernel
theorem dX13_walk_7 : decode cX13_walk 7 = .ok (.iload_n 2, 1) := by decide +kernel
theorem dX13_walk_8 : decode cX13_walk 8 = .ok (.invokestatic 340, 3) := by decide +kernel
theorem dX13_walk_11 : decode cX13_walk 11 = .ok (.ifCond .eq 12, 3) := by decide +kernel
theorem dX13_walk_14 : decode cX13_walk 14 = .ok (.aload_n 0, 1) := by decide +kernel
theorem dX13_walk_15 : decode cX13_walk 15 = .ok (.iload_n 1, 1) := by decide +kernel
theorem dX13_walk_16 : decode cX13_walk 16 = .ok (.iload_n 2, 1) := by decide +kernel
theorem dX13_walk_17 : decode cX13_walk 17 = .ok (.invokevirtual 366, 3) := by decide +kernel
theorem dX13_walk_20 : decode cX13_walk 20 = .ok (.goto 5, 3) := by decide +kernel
theorem dX13_walk_23 : decode cX13_walk 23 = .ok (.bipush (-2), 2) := by decide +kernel
theorem dX13_walk_25 : decode cX13_walk 25 = .ok (.ireturn, 1) := by decide +kernel
noncomputable def tX13_walk_12 : qT (Int32 × qM) :=
  eI
noncomputable def wX13_walk_12 (k : Int32 → qM → Option (Int32 × qM)) : qT (Int32 × qM) := fun lo st m => match lo, st with
  | [_, _, _], [.int s0] => k s0 m
  | _, _ => none
set_option maxRecDepth 20000 in
theorem sX13_walk_12 {C : qCx} {w : qWp} (h : qOk C w RX13 cX13_walk 3 2 155 155) (hm : qMt C (some .int)) (hx : qNx C) : qSnd C w 3 155 (qQf C w 155 155 jI) qfin 155 25 (tX13_walk_12) :=
  zI (pc := 25) h hm (Nat.le_refl _) dX13_walk_25
set_option maxRecDepth 20000 in
theorem lX13_walk_12 (s0 : Int32) (m : qM) : tX13_walk_12 [none, none, none] [(.int s0)] m = fX13_walk_12 s0 m := rfl
theorem bX13_walk_12 {C : qCx} {w : qWp} (h : qOk C w RX13 cX13_walk 3 2 155 155) (hm : qMt C (some .int)) (hx : qNx C) : qSnd C w 3 155 (qQf C w 155 155 jI) qfin 155 25 (wX13_walk_12 fX13_walk_12) :=
  qSnd_of (fun lo st m x hr0 => by
    unfold wX13_walk_12 at hr0
    split at hr0
    · exact ⟨_, (qsub_n (qsub_n (qsub_n qsub_nil))), (lX13_walk_12 _ _).trans hr0⟩
    · cases hr0) (sX13_walk_12 h hm hx)
noncomputable def tX13_walk_11 (j12 : qT (Int32 × qM)) : qT (Int32 × qM) :=
  oC (.int (-2 : Int32)) (j12)
noncomputable def wX13_walk_11 (k : qM → Option (Int32 × qM)) : qT (Int32 × qM) := fun lo st m => match lo, st with
  | [_, _, _], [] => k m
  | _, _ => none
set_option maxRecDepth 20000 in
theorem sX13_walk_11 {C : qCx} {w : qWp} (h : qOk C w RX13 cX13_walk 3 2 155 155) (hm : qMt C (some .int)) (hx : qNx C) {j12 : qT (Int32 × qM)} (k12 : qSnd C w 3 155 (qQf C w 155 155 jI) qfin 155 25 j12) : qSnd C w 3 155 (qQf C w 155 155 jI) qfin 155 23 (tX13_walk_11 j12) :=
  cB (pc := 23) h dX13_walk_23 rfl (k12)
set_option maxRecDepth 20000 in
theorem lX13_walk_11 (m : qM) : tX13_walk_11 (wX13_walk_12 fX13_walk_12) [none, none, none] [] m = fX13_walk_11 m := rfl
theorem bX13_walk_11 {C : qCx} {w : qWp} (h : qOk C w RX13 cX13_walk 3 2 155 155) (hm : qMt C (some .int)) (hx : qNx C) : qSnd C w 3 155 (qQf C w 155 155 jI) qfin 155 23 (wX13_walk_11 fX13_walk_11) :=
  qSnd_of (fun lo st m x hr0 => by
    unfold wX13_walk_11 at hr0
    split at hr0
    · exact ⟨_, (qsub_n (qsub_n (qsub_n qsub_nil))), (lX13_walk_11 _).trans hr0⟩
    · cases hr0) (sX13_walk_11 h hm hx (bX13_walk_12 h hm hx))
noncomputable def tX13_walk_0 (j11 : qT (Int32 × qM)) (j12 : qT (Int32 × qM)) : qT (Int32 × qM) :=
  oLi 1 (oCi GX13_isTeacher 1 (oEq (j11) (oLi 2 (oCi GX13_isTeacher 1 (oEq (j11) (oLa 0 (oLi 1 (oLi 2 (oCi GX13_walkOf 3 (j12))))))))))
set_option maxRecDepth 20000 in
theorem sX13_walk_0 {C : qCx} {w : qWp} (h : qOk C w RX13 cX13_walk 3 2 155 155) (hm : qMt C (some .int)) (hx : qNx C) {j11 : qT (Int32 × qM)} {j12 : qT (Int32 × qM)} (k11 : qSnd C w 3 155 (qQf C w 155 155 jI) qfin 155 23 j11) (k12 : qSnd C w 3 155 (qQf C w 155 155 jI) qfin 155 25 j12) : qSnd C w 3 155 (qQf C w 155 155 jI) qfin 155 0 (tX13_walk_0 j11 j12) :=
  cLi (pc := 0) h dX13_walk_0 rfl (kCi (pc := 1) h (kd_X13_340 h dX13_walk_1) spX13_isTeacher (by decide) (by decide) (by decide) (by decide) (jEq (pc := 4) h dX13_walk_4 rfl (k11) (cLi (pc := 7) h dX13_walk_7 rfl (kCi (pc := 8) h (kd_X13_340 h dX13_walk_8) spX13_isTeacher (by decide) (by decide) (by decide) (by decide) (jEq (pc := 11) h dX13_walk_11 rfl (k11) (cLa (pc := 14) h dX13_walk_14 rfl (cLi (pc := 15) h dX13_walk_15 rfl (cLi (pc := 16) h dX13_walk_16 rfl (kCi (pc := 17) h (kd_X13_366 h dX13_walk_17) spX13_walkOf (by decide) (by decide) (by decide) (by decide) (jGo (pc := 20) h dX13_walk_20 rfl (k12)))))))))))
set_option maxRecDepth 20000 in
theorem lX13_walk_0 (a1 : Int32) (a2 : Int32) (m : qM) : tX13_walk_0 (wX13_walk_11 fX13_walk_11) (wX13_walk_12 fX13_walk_12) [some (.ref 98), some (.int a1), some (.int a2)] [] m = fX13_walk_0 a1 a2 m := rfl
noncomputable def GX13_walk : qG Int32 := fun av m => match av with
  | [.ref 98, .int a1, .int a2] => fX13_walk a1 a2 m
  | _ => none
theorem spX13_walk : qSpI yX13_walk (.code yX13_walk cX13_walk 3 (some .int)) 2 qfin 155 155 1 GX13_walk := by
  intro av m x m' hG
  unfold GX13_walk at hG
  split at hG
  · rename_i a1 a2
    rw [fX13_walk_d] at hG
    exact ⟨qmeet (J := jI) (r := (x, m')) (av := [.ref 98, .int a1, .int a2]) (by decide +kernel) (Nat.le_of_ble_eq_true rfl) (fun C w h hm hx hn => sX13_walk_0 h hm hx (bX13_walk_11 h hm hx) (bX13_walk_12 h hm hx)) ((lX13_walk_0 _ _ _).trans hG) (Nat.le_of_ble_eq_true rfl), Or.inl ⟨98, _, 13, _, _, rfl, by decide, rfl, qCk_13, rfl⟩⟩
  · cases hG
theorem mf_X13_215 : Jvm.Cond.fieldLink RX13 215 (qTb 13 34).1 (qTb 13 34).2.1 (qTb 13 34).2.2.1 ∈ qTw := qm7 (List.mem_of_getElem? (i := 12) (by decide +kernel)) (by decide +kernel)
theorem ff_X13_215_98 : qFd RX13 215 98 13 34 3 := ⟨mf_X13_215, rfl, by decide, rfl⟩
theorem mf_X13_218 : Jvm.Cond.fieldLink RX13 218 (qTb 13 35).1 (qTb 13 35).2.1 (qTb 13 35).2.2.1 ∈ qTw := qm7 (List.mem_of_getElem? (i := 13) (by decide +kernel)) (by decide +kernel)
theorem ff_X13_218_98 : qFd RX13 218 98 13 35 3 := ⟨mf_X13_218, rfl, by decide, rfl⟩
theorem mf_X13_223 : Jvm.Cond.fieldLink RX13 223 (qTb 13 37).1 (qTb 13 37).2.1 (qTb 13 37).2.2.1 ∈ qTw := qm7 (List.mem_of_getElem? (i := 15) (by decide +kernel)) (by decide +kernel)
theorem ff_X13_223_98 : qFd RX13 223 98 13 37 3 := ⟨mf_X13_223, rfl, by decide, rfl⟩
theorem dX13_ask_0 : decode cX13_ask 0 = .ok (.iload_n 1, 1) := by decide +kernel
theorem dX13_ask_1 : decode cX13_ask 1 = .ok (.invokestatic 358, 3) := by decide +kernel
theorem dX13_ask_4 : decode cX13_ask 4 = .ok (.ifCond .eq 10, 3) := by decide +kernel
theorem dX13_ask_7 : decode cX13_ask 7 = .ok (.iload_n 2, 1) := by decide +kernel
theorem dX13_ask_8 : decode cX13_ask 8 = .ok (.invokestatic 340, 3) := by decide +kernel
theorem dX13_ask_11 : decode cX13_ask 11 = .ok (.ifCond .ne 6, 3) := by decide +kernel
theorem dX13_ask_14 : decode cX13_ask 14 = .ok (.bipush (-2), 2) := by decide +kernel
theorem dX13_ask_16 : decode cX13_ask 16 = .ok (.ireturn, 1) := by decide +kernel
theorem dX13_ask_17 : decode cX13_ask 17 = .ok (.aload_n 0, 1) := by decide +kernel
theorem dX13_ask_18 : decode cX13_ask 18 = .ok (.getfield 316, 3) := by decide +kernel
theorem dX13_ask_21 : decode cX13_ask 21 = .ok (.ifCond .eq 6, 3) := by decide +kernel
theorem dX13_ask_24 : decode cX13_ask 24 = .ok (.bipush (-4), 2) := by decide +kernel
theorem dX13_ask_26 : decode cX13_ask 26 = .ok (.ireturn, 1) := by decide +kernel
theorem dX13_ask_27 : decode cX13_ask 27 = .ok (.iconst 0, 1) := by decide +kernel
theorem dX13_ask_28 : decode cX13_ask 28 = .ok (.istore 4, 2) := by decide +kernel
theorem dX13_ask_30 : decode cX13_ask 30 = .ok (.iload 4, 2) := by decide +kernel
theorem dX13_ask_32 : decode cX13_ask 32 = .ok (.aload_n 0, 1) := by decide +kernel
theorem dX13_ask_33 : decode cX13_ask 33 = .ok (.getfield 313, 3) := by decide +kernel
theorem dX13_ask_36 : decode cX13_ask 36 = .ok (.if_icmp .ge 34, 3) := by decide +kernel
theorem dX13_ask_39 : decode cX13_ask 39 = .ok (.aload_n 0, 1) := by decide +kernel
theorem dX13_ask_40 : decode cX13_ask 40 = .ok (.getfield 215, 3) := by decide +kernel
theorem dX13_ask_43 : decode cX13_ask 43 = .ok (.iload 4, 2) := by decide +kernel
theorem dX13_ask_45 : decode cX13_ask 45 = .ok (.iaload, 1) := by decide +kernel
theorem dX13_ask_46 : decode cX13_ask 46 = .ok (.iload_n 1, 1) := by decide +kernel
theorem dX13_ask_47 : decode cX13_ask 47 = .ok (.if_icmp .ne 17, 3) := by decide +kernel
theorem dX13_ask_50 : decode cX13_ask 50 = .ok (.aload_n 0, 1) := by decide +kernel
theorem dX13_ask_51 : decode cX13_ask 51 = .ok (.getfield 218, 3) := by decide +kernel
theorem dX13_ask_54 : decode cX13_ask 54 = .ok (.iload 4, 2) := by decide +kernel
theorem dX13_ask_56 : decode cX13_ask 56 = .ok (.iaload, 1) := by decide +kernel
theorem dX13_ask_57 : decode cX13_ask 57 = .ok (.iload_n 2, 1) := by decide +kernel
theorem dX13_ask_58 : decode cX13_ask 58 = .ok (.if_icmp .ne 6, 3) := by decide +kernel
theorem dX13_ask_61 : decode cX13_ask 61 = .ok (.bipush (-4), 2) := by decide +kernel
theorem dX13_ask_63 : decode cX13_ask 63 = .ok (.ireturn, 1) := by decide +kernel
theorem dX13_ask_64 : decode cX13_ask 64 = .ok (.iinc 4 1, 3) := by decide +kernel
theorem dX13_ask_67 : decode cX13_ask 67 = .ok (.goto (-37), 3) := by decide +kernel
theorem dX13_ask_70 : decode cX13_ask 70 = .ok (.aload_n 0, 1) := by decide +kernel
theorem dX13_ask_71 : decode cX13_ask 71 = .ok (.getfield 313, 3) := by decide +kernel
theorem dX13_ask_74 : decode cX13_ask 74 = .ok (.bipush 40, 2) := by decide +kernel
theorem dX13_ask_76 : decode cX13_ask 76 = .ok (.if_icmp .ne 6, 3) := by decide +kernel
theorem dX13_ask_79 : decode cX13_ask 79 = .ok (.bipush (-3), 2) := by decide +kernel
theorem dX13_ask_81 : decode cX13_ask 81 = .ok (.ireturn, 1) := by decide +kernel
theorem dX13_ask_82 : decode cX13_ask 82 = .ok (.aload_n 0, 1) := by decide +kernel
theorem dX13_ask_83 : decode cX13_ask 83 = .ok (.getfield 215, 3) := by decide +kernel
theorem dX13_ask_86 : decode cX13_ask 86 = .ok (.aload_n 0, 1) := by decide +kernel
theorem dX13_ask_87 : decode cX13_ask 87 = .ok (.getfield 313, 3) := by decide +kernel
theorem dX13_ask_90 : decode cX13_ask 90 = .ok (.iload_n 1, 1) := by decide +kernel
theorem dX13_ask_91 : decode cX13_ask 91 = .ok (.iastore, 1) := by decide +kernel
theorem dX13_ask_92 : decode cX13_ask 92 = .ok (.aload_n 0, 1) := by decide +kernel
theorem dX13_ask_93 : decode cX13_ask 93 = .ok (.getfield 218, 3) := by decide +kernel
theorem dX13_ask_96 : decode cX13_ask 96 = .ok (.aload_n 0, 1) := by decide +kernel
theorem dX13_ask_97 : decode cX13_ask 97 = .ok (.getfield 313, 3) := by decide +kernel
theorem dX13_ask_100 : decode cX13_ask 100 = .ok (.iload_n 2, 1) := by decide +kernel
theorem dX13_ask_101 : decode cX13_ask 101 = .ok (.iastore, 1) := by decide +kernel
theorem dX13_ask_102 : decode cX13_ask 102 = .ok (.aload_n 0, 1) := by decide +kernel
theorem dX13_ask_103 : decode cX13_ask 103 = .ok (.getfield 223, 3) := by decide +kernel
theorem dX13_ask_106 : decode cX13_ask 106 = .ok (.aload_n 0, 1) := by decide +kernel
theorem dX13_ask_107 : decode cX13_ask 107 = .ok (.getfield 313, 3) := by decide +kernel
theorem dX13_ask_110 : decode cX13_ask 110 = .ok (.iload_n 3, 1) := by decide +kernel
theorem dX13_ask_111 : decode cX13_ask 111 = .ok (.bastore, 1) := by decide +kernel
theorem dX13_ask_112 : decode cX13_ask 112 = .ok (.aload_n 0, 1) := by decide +kernel
theorem dX13_ask_113 : decode cX13_ask 113 = .ok (.getfield 221, 3) := by decide +kernel
theorem dX13_ask_116 : decode cX13_ask 116 = .ok (.aload_n 0, 1) := by decide +kernel
theorem dX13_ask_117 : decode cX13_ask 117 = .ok (.getfield 313, 3) := by decide +kernel
theorem dX13_ask_120 : decode cX13_ask 120 = .ok (.iconst (-1), 1) := by decide +kernel
theorem dX13_ask_121 : decode cX13_ask 121 = .ok (.iastore, 1) := by decide +kernel
theorem dX13_ask_122 : decode cX13_ask 122 = .ok (.aload_n 0, 1) := by decide +kernel
theorem dX13_ask_123 : decode cX13_ask 123 = .ok (.dup, 1) := by decide +kernel
theorem dX13_ask_124 : decode cX13_ask 124 = .ok (.getfield 313, 3) := by decide +kernel
theorem dX13_ask_127 : decode cX13_ask 127 = .ok (.iconst 1, 1) := by decide +kernel
theorem dX13_ask_128 : decode cX13_ask 128 = .ok (.iadd, 1) := by decide +kernel
theorem dX13_ask_129 : decode cX13_ask 129 = .ok (.putfield 313, 3) := by decide +kernel
theorem dX13_ask_132 : decode cX13_ask 132 = .ok (.aload_n 0, 1) := by decide +kernel
theorem dX13_ask_133 : decode cX13_ask 133 = .ok (.getfield 313, 3) := by decide +kernel
theorem dX13_ask_136 : decode cX13_ask 136 = .ok (.iconst 1, 1) := by decide +kernel
theorem dX13_ask_137 : decode cX13_ask 137 = .ok (.isub, 1) := by decide +kernel
theorem dX13_ask_138 : decode cX13_ask 138 = .ok (.ireturn, 1) := by decide +kernel
noncomputable def tX13_ask_6 : qT (Int32 × qM) :=
  oC (.int (-2 : Int32)) (eI)
noncomputable def wX13_ask_6 (k : qM → Option (Int32 × qM)) : qT (Int32 × qM) := fun lo st m => match lo, st with
  | [_, _, _, _, _], [] => k m
  | _, _ => none
set_option maxRecDepth 20000 in
theorem sX13_ask_6 {C : qCx} {w : qWp} (h : qOk C w RX13 cX13_ask 5 2 155 155) (hm : qMt C (some .int)) (hx : qNx C) : qSnd C w 5 155 (qQf C w 155 155 jI) qfin 155 14 (tX13_ask_6) :=
  cB (pc := 14) h dX13_ask_14 rfl (zI (pc := 16) h hm (Nat.le_refl _) dX13_ask_16)
set_option maxRecDepth 20000 in
theorem lX13_ask_6 (m : qM) : tX13_ask_6 [none, none, none, none, none] [] m = fX13_ask_6 m := rfl
theorem bX13_ask_6 {C : qCx} {w : qWp} (h : qOk C w RX13 cX13_ask 5 2 155 155) (hm : qMt C (some .int)) (hx : qNx C) : qSnd C w 5 155 (qQf C w 155 155 jI) qfin 155 14 (wX13_ask_6 fX13_ask_6) :=
  qSnd_of (fun lo st m x hr0 => by
    unfold wX13_ask_6 at hr0
    split at hr0
    · exact ⟨_, (qsub_n (qsub_n (qsub_n (qsub_n (qsub_n qsub_nil))))), (lX13_ask_6 _).trans hr0⟩
    · cases hr0) (sX13_ask_6 h hm hx)
noncomputable def tX13_ask_33 (j15 : qT (Int32 × qM)) : qT (Int32 × qM) :=
  oInc 4 (1 : Int32) (j15)
noncomputable def wX13_ask_33 (k : Int32 → Int32 → Int32 → Int32 → qM → Option (Int32 × qM)) : qT (Int32 × qM) := fun lo st m => match lo, st with
  | [some (.ref 98), some (.int a1), some (.int a2), some (.int a3), some (.int a4)], [] => k a1 a2 a3 a4 m
  | _, _ => none
noncomputable def wX13_ask_15 (k : Int32 → Int32 → Int32 → Int32 → qM → Option (Int32 × qM)) : qT (Int32 × qM) := fun lo st m => match lo, st with
  | [some (.ref 98), some (.int a1), some (.int a2), some (.int a3), some (.int a4)], [] => k a1 a2 a3 a4 m
  | _, _ => none
set_option maxRecDepth 20000 in
theorem sX13_ask_33 {C : qCx} {w : qWp} (h : qOk C w RX13 cX13_ask 5 2 155 155) (hm : qMt C (some .int)) (hx : qNx C) {j15 : qT (Int32 × qM)} (k15 : qSnd C w 5 155 (qQf C w 155 155 jI) qfin 155 30 j15) : qSnd C w 5 155 (qQf C w 155 155 jI) qfin 155 64 (tX13_ask_33 j15) :=
  cInc (pc := 64) h dX13_ask_64 rfl (jGo (pc := 67) h dX13_ask_67 rfl (k15))
set_option maxRecDepth 20000 in
theorem lX13_ask_33 (k15 : Int32 → Int32 → Int32 → Int32 → qM → Option (Int32 × qM)) (a1 : Int32) (a2 : Int32) (a3 : Int32) (a4 : Int32) (m : qM) : tX13_ask_33 (wX13_ask_15 k15) [some (.ref 98), some (.int a1), some (.int a2), some (.int a3), some (.int a4)] [] m = fX13_ask_33 k15 a1 a2 a3 a4 m := rfl
theorem bX13_ask_33 {C : qCx} {w : qWp} (h : qOk C w RX13 cX13_ask 5 2 155 155) (hm : qMt C (some .int)) (hx : qNx C) {k15 : Int32 → Int32 → Int32 → Int32 → qM → Option (Int32 × qM)} (h15 : qSnd C w 5 155 (qQf C w 155 155 jI) qfin 155 30 (wX13_ask_15 k15)) : qSnd C w 5 155 (qQf C w 155 155 jI) qfin 155 64 (wX13_ask_33 (fX13_ask_33 k15)) :=
  qSnd_of (fun lo st m x hr0 => by
    unfold wX13_ask_33 at hr0
    split at hr0
    · exact ⟨_, (qsub_e (qsub_e (qsub_e (qsub_e (qsub_e qsub_nil))))), (lX13_ask_33 _ _ _ _ _ _).trans hr0⟩
    · cases hr0) (sX13_ask_33 h hm hx h15)
noncomputable def tX13_ask_15 (j33 : qT (Int32 × qM)) : qT (Int32 × qM) :=
  oLi 4 (oLa 0 (oGi 98 32 (oCGe (oLa 0 (oGi 98 32 (oC (.int (40 : Int32)) (oCEq (oC (.int (-3 : Int32)) (eI)) (oLa 0 (oGf 98 34 123 (oLa 0 (oGi 98 32 (oLi 1 (oWi 123 40 (oLa 0 (oGf 98 35 124 (oLa 0 (oGi 98 32 (oLi 2 (oWi 124 40 (oLa 0 (oGf 98 37 126 (oLa 0 (oGi 98 32 (oLi 3 (oWz 126 40 (oLa 0 (oGf 98 36 125 (oLa 0 (oGi 98 32 (oC (.int (-1 : Int32)) (oWi 125 40 (oLa 0 (oDup (oGi 98 32 (oC (.int (1 : Int32)) (o2 (· + ·) (oPi 98 32 (oLa 0 (oGi 98 32 (oC (.int (1 : Int32)) (o2 (· - ·) (eI))))))))))))))))))))))))))))))))))))))) (oLa 0 (oGf 98 34 123 (oLi 4 (oAi 123 40 (oLi 1 (oCEq (oLa 0 (oGf 98 35 124 (oLi 4 (oAi 124 40 (oLi 2 (oCEq (oC (.int (-4 : Int32)) (eI)) (j33))))))) (j33))))))))))
set_option maxRecDepth 20000 in
theorem sX13_ask_15 {C : qCx} {w : qWp} (h : qOk C w RX13 cX13_ask 5 2 155 155) (hm : qMt C (some .int)) (hx : qNx C) {j33 : qT (Int32 × qM)} (k33 : qSnd C w 5 155 (qQf C w 155 155 jI) qfin 155 64 j33) : qSnd C w 5 155 (qQf C w 155 155 jI) qfin 155 30 (tX13_ask_15 j33) :=
  cLI (pc := 30) h dX13_ask_30 (cLa (pc := 32) h dX13_ask_32 rfl (gGi (pc := 33) h dX13_ask_33 ff_X13_313_98 (Nat.le_of_ble_eq_true rfl) (Nat.le_of_ble_eq_true rfl) (jCGe (pc := 36) h dX13_ask_36 rfl (cLa (pc := 70) h dX13_ask_70 rfl (gGi (pc := 71) h dX13_ask_71 ff_X13_313_98 (Nat.le_of_ble_eq_true rfl) (Nat.le_of_ble_eq_true rfl) (cB (pc := 74) h dX13_ask_74 rfl (jCNe (pc := 76) h dX13_ask_76 rfl (cLa (pc := 82) h dX13_ask_82 rfl (gGf (pc := 83) h dX13_ask_83 ff_X13_215_98 (Nat.le_of_ble_eq_true rfl) (Nat.le_of_ble_eq_true rfl) rfl (cLa (pc := 86) h dX13_ask_86 rfl (gGi (pc := 87) h dX13_ask_87 ff_X13_313_98 (Nat.le_of_ble_eq_true rfl) (Nat.le_of_ble_eq_true rfl) (cLi (pc := 90) h dX13_ask_90 rfl (rWi (pc := 91) h dX13_ask_91 rfl (Nat.le_of_ble_eq_true rfl) (Nat.le_of_ble_eq_true rfl) (cLa (pc := 92) h dX13_ask_92 rfl (gGf (pc := 93) h dX13_ask_93 ff_X13_218_98 (Nat.le_of_ble_eq_true rfl) (Nat.le_of_ble_eq_true rfl) rfl (cLa (pc := 96) h dX13_ask_96 rfl (gGi (pc := 97) h dX13_ask_97 ff_X13_313_98 (Nat.le_of_ble_eq_true rfl) (Nat.le_of_ble_eq_true rfl) (cLi (pc := 100) h dX13_ask_100 rfl (rWi (pc := 101) h dX13_ask_101 rfl (Nat.le_of_ble_eq_true rfl) (Nat.le_of_ble_eq_true rfl) (cLa (pc := 102) h dX13_ask_102 rfl (gGf (pc := 103) h dX13_ask_103 ff_X13_223_98 (Nat.le_of_ble_eq_true rfl) (Nat.le_of_ble_eq_true rfl) rfl (cLa (pc := 106) h dX13_ask_106 rfl (gGi (pc := 107) h dX13_ask_107 ff_X13_313_98 (Nat.le_of_ble_eq_true rfl) (Nat.le_of_ble_eq_true rfl) (cLi (pc := 110) h dX13_ask_110 rfl (rWz (pc := 111) h dX13_ask_111 rfl (Nat.le_of_ble_eq_true rfl) (Nat.le_of_ble_eq_true rfl) (cLa (pc := 112) h dX13_ask_112 rfl (gGf (pc := 113) h dX13_ask_113 ff_X13_221_98 (Nat.le_of_ble_eq_true rfl) (Nat.le_of_ble_eq_true rfl) rfl (cLa (pc := 116) h dX13_ask_116 rfl (gGi (pc := 117) h dX13_ask_117 ff_X13_313_98 (Nat.le_of_ble_eq_true rfl) (Nat.le_of_ble_eq_true rfl) (cC (pc := 120) h dX13_ask_120 rfl (rWi (pc := 121) h dX13_ask_121 rfl (Nat.le_of_ble_eq_true rfl) (Nat.le_of_ble_eq_true rfl) (cLa (pc := 122) h dX13_ask_122 rfl (aDup (pc := 123) h dX13_ask_123 (gGi (pc := 124) h dX13_ask_124 ff_X13_313_98 (Nat.le_of_ble_eq_true rfl) (Nat.le_of_ble_eq_true rfl) (cC (pc := 127) h dX13_ask_127 rfl (aAdd (pc := 128) h dX13_ask_128 (gPi (pc := 129) h dX13_ask_129 ff_X13_313_98 (Or.inl rfl) (Nat.le_of_ble_eq_true rfl) (Nat.le_of_ble_eq_true rfl) (cLa (pc := 132) h dX13_ask_132 rfl (gGi (pc := 133) h dX13_ask_133 ff_X13_313_98 (Nat.le_of_ble_eq_true rfl) (Nat.le_of_ble_eq_true rfl) (cC (pc := 136) h dX13_ask_136 rfl (aSub (pc := 137) h dX13_ask_137 (zI (pc := 138) h hm (Nat.le_refl _) dX13_ask_138))))))))))))))))))))))))))))))))))) (cB (pc := 79) h dX13_ask_79 rfl (zI (pc := 81) h hm (Nat.le_refl _) dX13_ask_81)))))) (cLa (pc := 39) h dX13_ask_39 rfl (gGf (pc := 40) h dX13_ask_40 ff_X13_215_98 (Nat.le_of_ble_eq_true rfl) (Nat.le_of_ble_eq_true rfl) rfl (cLI (pc := 43) h dX13_ask_43 (rAi (pc := 45) h dX13_ask_45 rfl (Nat.le_of_ble_eq_true rfl) (Nat.le_of_ble_eq_true rfl) (cLi (pc := 46) h dX13_ask_46 rfl (jCNe (pc := 47) h dX13_ask_47 rfl (k33) (cLa (pc := 50) h dX13_ask_50 rfl (gGf (pc := 51) h dX13_ask_51 ff_X13_218_98 (Nat.le_of_ble_eq_true rfl) (Nat.le_of_ble_eq_true rfl) rfl (cLI (pc := 54) h dX13_ask_54 (rAi (pc := 56) h dX13_ask_56 rfl (Nat.le_of_ble_eq_true rfl) (Nat.le_of_ble_eq_true rfl) (cLi (pc := 57) h dX13_ask_57 rfl (jCNe (pc := 58) h dX13_ask_58 rfl (k33) (cB (pc := 61) h dX13_ask_61 rfl (zI (pc := 63) h hm (Nat.le_refl _) dX13_ask_63)))))))))))))))))
set_option maxRecDepth 20000 in
theorem lX13_ask_15 (n : Nat) (a1 : Int32) (a2 : Int32) (a3 : Int32) (a4 : Int32) (m : qM) : tX13_ask_15 (wX13_ask_33 (fX13_ask_33 (fX13_ask_15 n))) [some (.ref 98), some (.int a1), some (.int a2), some (.int a3), some (.int a4)] [] m = fX13_ask_15 (n + 1) a1 a2 a3 a4 m := rfl
theorem bX13_ask_15 {C : qCx} {w : qWp} (h : qOk C w RX13 cX13_ask 5 2 155 155) (hm : qMt C (some .int)) (hx : qNx C) : ∀ n : Nat, qSnd C w 5 155 (qQf C w 155 155 jI) qfin 155 30 (wX13_ask_15 (fX13_ask_15 n))
  | 0 => qSnd_of0 (fun lo st m x hr0 => by
    unfold wX13_ask_15 at hr0
    split at hr0
    · cases hr0
    · cases hr0)
  | n + 1 => by
    have ih := bX13_ask_15 h hm hx n
    exact qSnd_of (fun lo st m x hr0 => by
    unfold wX13_ask_15 at hr0
    split at hr0
    · exact ⟨_, (qsub_e (qsub_e (qsub_e (qsub_e (qsub_e qsub_nil))))), (lX13_ask_15 n _ _ _ _ _).trans hr0⟩
    · cases hr0) (sX13_ask_15 h hm hx (bX13_ask_33 h hm hx ih))
noncomputable def tX13_ask_0 (j6 : qT (Int32 × qM)) (j15 : qT (Int32 × qM)) : qT (Int32 × qM) :=
  oLi 1 (oCi GX13_isFamily 1 (oEq (j6) (oLi 2 (oCi GX13_isTeacher 1 (oEq (j6) (oLa 0 (oGi 98 33 (oEq (oC (.int (0 : Int32)) (oSi 4 (j15))) (oC (.int (-4 : Int32)) (eI))))))))))
set_option maxRecDepth 20000 in
theorem sX13_ask_0 {C : qCx} {w : qWp} (h : qOk C w RX13 cX13_ask 5 2 155 155) (hm : qMt C (some .int)) (hx : qNx C) {j6 : qT (Int32 × qM)} {j15 : qT (Int32 × qM)} (k6 : qSnd C w 5 155 (qQf C w 155 155 jI) qfin 155 14 j6) (k15 : qSnd C w 5 155 (qQf C w 155 155 jI) qfin 155 30 j15) : qSnd C w 5 155 (qQf C w 155 155 jI) qfin 155 0 (tX13_ask_0 j6 j15) :=
  cLi (pc := 0) h dX13_ask_0 rfl (kCi (pc := 1) h (kd_X13_358 h dX13_ask_1) spX13_isFamily (by decide) (by decide) (by decide) (by decide) (jEq (pc := 4) h dX13_ask_4 rfl (k6) (cLi (pc := 7) h dX13_ask_7 rfl (kCi (pc := 8) h (kd_X13_340 h dX13_ask_8) spX13_isTeacher (by decide) (by decide) (by decide) (by decide) (jNe (pc := 11) h dX13_ask_11 rfl (cLa (pc := 17) h dX13_ask_17 rfl (gGz (pc := 18) h dX13_ask_18 ff_X13_316_98 (Nat.le_of_ble_eq_true rfl) (Nat.le_of_ble_eq_true rfl) (jEq (pc := 21) h dX13_ask_21 rfl (cC (pc := 27) h dX13_ask_27 rfl (cSI (pc := 28) h dX13_ask_28 (k15))) (cB (pc := 24) h dX13_ask_24 rfl (zI (pc := 26) h hm (Nat.le_refl _) dX13_ask_26))))) (k6))))))
set_option maxRecDepth 20000 in
theorem lX13_ask_0 (a1 : Int32) (a2 : Int32) (a3 : Int32) (m : qM) : tX13_ask_0 (wX13_ask_6 fX13_ask_6) (wX13_ask_15 (fX13_ask_15 FU)) [some (.ref 98), some (.int a1), some (.int a2), some (.int a3), none] [] m = fX13_ask_0 a1 a2 a3 m := rfl
noncomputable def GX13_ask : qG Int32 := fun av m => match av with
  | [.ref 98, .int a1, .int a2, .int a3] => fX13_ask a1 a2 a3 m
  | _ => none
theorem spX13_ask : qSpI yX13_ask (.code yX13_ask cX13_ask 5 (some .int)) 2 qfin 155 155 1 GX13_ask := by
  intro av m x m' hG
  unfold GX13_ask at hG
  split at hG
  · rename_i a1 a2 a3
    rw [fX13_ask_d] at hG
    exact ⟨qmeet (J := jI) (r := (x, m')) (av := [.ref 98, .int a1, .int a2, .int a3]) (by decide +kernel) (Nat.le_of_ble_eq_true rfl) (fun C w h hm hx hn => sX13_ask_0 h hm hx (bX13_ask_6 h hm hx) (bX13_ask_15 h hm hx FU)) ((lX13_ask_0 _ _ _ _).trans hG) (Nat.le_of_ble_eq_true rfl), Or.inl ⟨98, _, 13, _, _, rfl, by decide, rfl, qCk_13, rfl⟩⟩
  · cases hG
theorem dX13_isAsk_0 : decode cX13_isAsk 0 = .ok (.iload_n 1, 1) := by decide +kernel
theorem dX13_isAsk_1 : decode cX13_isAsk 1 = .ok (.i2l, 1) := by decide +kernel
theorem dX13_isAsk_2 : decode cX13_isAsk 2 = .ok (.lconst 0, 1) := by decide +kernel
theorem dX13_isAsk_3 : decode cX13_isAsk 3 = .ok (.aload_n 0, 1) := by decide +kernel
theorem dX13_isAsk_4 : decode cX13_isAsk 4 = .ok (.getfield 313, 3) := by decide +kernel
theorem dX13_isAsk_7 : decode cX13_isAsk 7 = .ok (.i2l, 1) := by decide +kernel
theorem dX13_isAsk_8 : decode cX13_isAsk 8 = .ok (.lconst 1, 1) := by decide +kernel
theorem dX13_isAsk_9 : decode cX13_isAsk 9 = .ok (.lsub, 1) := by decide +kernel
theorem dX13_isAsk_10 : decode cX13_isAsk 10 = .ok (.invokestatic 66, 3) := by decide +kernel
theorem dX13_isAsk_13 : decode cX13_isAsk 13 = .ok (.ireturn, 1) := by decide +kernel
noncomputable def tX13_isAsk_0 : qT (Int32 × qM) :=
  oLi 1 (oI2l (oC (.long (0 : Int64)) (oLa 0 (oGi 98 32 (oI2l (oC (.long (1 : Int64)) (oJJ (· - ·) (oCi GX13_in 3 (eZ)))))))))
set_option maxRecDepth 20000 in
theorem sX13_isAsk_0 {C : qCx} {w : qWp} (h : qOk C w RX13 cX13_isAsk 2 1 155 155) (hm : qMt C (some .boolean)) (hx : qNx C) : qSnd C w 2 155 (qQf C w 155 155 jI) qfin 155 0 (tX13_isAsk_0) :=
  cLi (pc := 0) h dX13_isAsk_0 rfl (aI2l (pc := 1) h dX13_isAsk_1 (cJ (pc := 2) h dX13_isAsk_2 rfl (cLa (pc := 3) h dX13_isAsk_3 rfl (gGi (pc := 4) h dX13_isAsk_4 ff_X13_313_98 (Nat.le_of_ble_eq_true rfl) (Nat.le_of_ble_eq_true rfl) (aI2l (pc := 7) h dX13_isAsk_7 (cJ (pc := 8) h dX13_isAsk_8 rfl (aLsub (pc := 9) h dX13_isAsk_9 (kCi (pc := 10) h (kd_X13_66 h dX13_isAsk_10) spX13_in (by decide) (by decide) (by decide) (by decide) (zZ (pc := 13) h hm (Nat.le_refl _) dX13_isAsk_13)))))))))
set_option maxRecDepth 20000 in
theorem lX13_isAsk_0 (a1 : Int32) (m : qM) : tX13_isAsk_0 [some (.ref 98), some (.int a1)] [] m = fX13_isAsk_0 a1 m := rfl
noncomputable def GX13_isAsk : qG Int32 := fun av m => match av with
  | [.ref 98, .int a1] => fX13_isAsk a1 m
  | _ => none
theorem spX13_isAsk : qSpI yX13_isAsk (.code yX13_isAsk cX13_isAsk 2 (some .boolean)) 1 qfin 155 155 1 GX13_isAsk := by
  intro av m x m' hG
  unfold GX13_isAsk at hG
  split at hG
  · rename_i a1
    rw [fX13_isAsk_d] at hG
    exact ⟨qmeet (J := jI) (r := (x, m')) (av := [.ref 98, .int a1]) (by decide +kernel) (Nat.le_of_ble_eq_true rfl) (fun C w h hm hx hn => sX13_isAsk_0 h hm hx) ((lX13_isAsk_0 _ _).trans hG) (Nat.le_of_ble_eq_true rfl), Or.inl ⟨98, _, 13, _, _, rfl, by decide, rfl, qCk_13, rfl⟩⟩
  · cases hG
theorem dX13_hasTeacher_0 : decode cX13_hasTeacher 0 = .ok (.iconst 0, 1) := by decide +kernel
theorem dX13_hasTeacher_1 : decode cX13_hasTeacher 1 = .ok (.istore_n 3, 1) := by decide +kernel
theorem dX13_hasTeacher_2 : decode cX13_hasTeacher 2 = .ok (.iload_n 3, 1) := by decide +kernel
theorem dX13_hasTeacher_3 : decode cX13_hasTeacher 3 = .ok (.aload_n 0, 1) := by decide +kernel
theorem dX13_hasTeacher_4 : decode cX13_hasTeacher 4 = .ok (.getfield 313, 3) := by decide +kernel
theorem dX13_hasTeacher_7 : decode cX13_hasTeacher 7 = .ok (.if_icmp .ge 31, 3) := by decide +kernel
theorem dX13_hasTeacher_10 : decode cX13_hasTeacher 10 = .ok (.aload_n 0, 1) := by decide +kernel
theorem dX13_hasTeacher_11 : decode cX13_hasTeacher 11 = .ok (.getfield 218, 3) := by decide +kernel
theorem dX13_hasTeacher_14 : decode cX13_hasTeacher 14 = .ok (.iload_n 3, 1) := by decide +kernel
theorem dX13_hasTeacher_15 : decode cX13_hasTeacher 15 = .ok (.iaload, 1) := by decide +kernel
theorem dX13_hasTeacher_16 : decode cX13_hasTeacher 16 = .ok (.iload_n 1, 1) := by decide +kernel
theorem dX13_hasTeacher_17 : decode cX13_hasTeacher 17 = .ok (.if_icmp .ne 15, 3) := by decide +kernel
theorem dX13_hasTeacher_20 : decode cX13_hasTeacher 20 = .ok (.aload_n 0, 1) := by decide +kernel
theorem dX13_hasTeacher_21 : decode cX13_hasTeacher 21 = .ok (.getfield 221, 3) := by decide +kernel
theorem dX13_hasTeacher_24 : decode cX13_hasTeacher 24 = .ok (.iload_n 3, 1) := by decide +kernel
theorem dX13_hasTeacher_25 : decode cX13_hasTeacher 25 = .ok (.iaload, 1) := by decide +kernel
theorem dX13_hasTeacher_26 : decode cX13_hasTeacher 26 = .ok (.iload_n 2, 1) := by decide +kernel
theorem dX13_hasTeacher_27 : decode cX13_hasTeacher 27 = .ok (.if_icmp .ne 5, 3) := by decide +kernel
theorem dX13_hasTeacher_30 : decode cX13_hasTeacher 30 = .ok (.iconst 1, 1) := by decide +kernel
theorem dX13_hasTeacher_31 : decode cX13_hasTeacher 31 = .ok (.ireturn, 1) := by decide +kernel
theorem dX13_hasTeacher_32 : decode cX13_hasTeacher 32 = .ok (.iinc 3 1, 3) := by decide +kernel
theorem dX13_hasTeacher_35 : decode cX13_hasTeacher 35 = .ok (.goto (-33), 3) := by decide +kernel
theorem dX13_hasTeacher_38 : decode cX13_hasTeacher 38 = .ok (.iconst 0, 1) := by decide +kernel
theorem dX13_hasTeacher_39 : decode cX13_hasTeacher 39 = .ok (.ireturn, 1) := by decide +kernel
noncomputable def tX13_hasTeacher_20 (j2 : qT (Int32 × qM)) : qT (Int32 × qM) :=
  oInc 3 (1 : Int32) (j2)
noncomputable def wX13_hasTeacher_20 (k : Int32 → Int32 → Int32 → qM → Option (Int32 × qM)) : qT (Int32 × qM) := fun lo st m => match lo, st with
  | [some (.ref 98), some (.int a1), some (.int a2), some (.int a3)], [] => k a1 a2 a3 m
  | _, _ => none
noncomputable def wX13_hasTeacher_2 (k : Int32 → Int32 → Int32 → qM → Option (Int32 × qM)) : qT (Int32 × qM) := fun lo st m => match lo, st with
  | [some (.ref 98), some (.int a1), some (.int a2), some (.int a3)], [] => k a1 a2 a3 m
  | _, _ => none
set_option maxRecDepth 20000 in
theorem sX13_hasTeacher_20 {C : qCx} {w : qWp} (h : qOk C w RX13 cX13_hasTeacher 4 0 155 155) (hm : qMt C (some .boolean)) (hx : qNx C) {j2 : qT (Int32 × qM)} (k2 : qSnd C w 4 155 (qQf C w 155 155 jI) qfin 155 2 j2) : qSnd C w 4 155 (qQf C w 155 155 jI) qfin 155 32 (tX13_hasTeacher_20 j2) :=
  cInc (pc := 32) h dX13_hasTeacher_32 rfl (jGo (pc := 35) h dX13_hasTeacher_35 rfl (k2))
set_option maxRecDepth 20000 in
theorem lX13_hasTeacher_20 (k2 : Int32 → Int32 → Int32 → qM → Option (Int32 × qM)) (a1 : Int32) (a2 : Int32) (a3 : Int32) (m : qM) : tX13_hasTeacher_20 (wX13_hasTeacher_2 k2) [some (.ref 98), some (.int a1), some (.int a2), some (.int a3)] [] m = fX13_hasTeacher_20 k2 a1 a2 a3 m := rfl
theorem bX13_hasTeacher_20 {C : qCx} {w : qWp} (h : qOk C w RX13 cX13_hasTeacher 4 0 155 155) (hm : qMt C (some .boolean)) (hx : qNx C) {k2 : Int32 → Int32 → Int32 → qM → Option (Int32 × qM)} (h2 : qSnd C w 4 155 (qQf C w 155 155 jI) qfin 155 2 (wX13_hasTeacher_2 k2)) : qSnd C w 4 155 (qQf C w 155 155 jI) qfin 155 32 (wX13_hasTeacher_20 (fX13_hasTeacher_20 k2)) :=
  qSnd_of (fun lo st m x hr0 => by
    unfold wX13_hasTeacher_20 at hr0
    split at hr0
    · exact ⟨_, (qsub_e (qsub_e (qsub_e (qsub_e qsub_nil)))), (lX13_hasTeacher_20 _ _ _ _ _).trans hr0⟩
    · cases hr0) (sX13_hasTeacher_20 h hm hx h2)
noncomputable def tX13_hasTeacher_2 (j20 : qT (Int32 × qM)) : qT (Int32 × qM) :=
  oLi 3 (oLa 0 (oGi 98 32 (oCGe (oC (.int (0 : Int32)) (eZ)) (oLa 0 (oGf 98 35 124 (oLi 3 (oAi 124 40 (oLi 1 (oCEq (oLa 0 (oGf 98 36 125 (oLi 3 (oAi 125 40 (oLi 2 (oCEq (oC (.int (1 : Int32)) (eZ)) (j20))))))) (j20))))))))))
set_option maxRecDepth 20000 in
theorem sX13_hasTeacher_2 {C : qCx} {w : qWp} (h : qOk C w RX13 cX13_hasTeacher 4 0 155 155) (hm : qMt C (some .boolean)) (hx : qNx C) {j20 : qT (Int32 × qM)} (k20 : qSnd C w 4 155 (qQf C w 155 155 jI) qfin 155 32 j20) : qSnd C w 4 155 (qQf C w 155 155 jI) qfin 155 2 (tX13_hasTeacher_2 j20) :=
  cLi (pc := 2) h dX13_hasTeacher_2 rfl (cLa (pc := 3) h dX13_hasTeacher_3 rfl (gGi (pc := 4) h dX13_hasTeacher_4 ff_X13_313_98 (Nat.le_of_ble_eq_true rfl) (Nat.le_of_ble_eq_true rfl) (jCGe (pc := 7) h dX13_hasTeacher_7 rfl (cC (pc := 38) h dX13_hasTeacher_38 rfl (zZ (pc := 39) h hm (Nat.le_refl _) dX13_hasTeacher_39)) (cLa (pc := 10) h dX13_hasTeacher_10 rfl (gGf (pc := 11) h dX13_hasTeacher_11 ff_X13_218_98 (Nat.le_of_ble_eq_true rfl) (Nat.le_of_ble_eq_true rfl) rfl (cLi (pc := 14) h dX13_hasTeacher_14 rfl (rAi (pc := 15) h dX13_hasTeacher_15 rfl (Nat.le_of_ble_eq_true rfl) (Nat.le_of_ble_eq_true rfl) (cLi (pc := 16) h dX13_hasTeacher_16 rfl (jCNe (pc := 17) h dX13_hasTeacher_17 rfl (k20) (cLa (pc := 20) h dX13_hasTeacher_20 rfl (gGf (pc := 21) h dX13_hasTeacher_21 ff_X13_221_98 (Nat.le_of_ble_eq_true rfl) (Nat.le_of_ble_eq_true rfl) rfl (cLi (pc := 24) h dX13_hasTeacher_24 rfl (rAi (pc := 25) h dX13_hasTeacher_25 rfl (Nat.le_of_ble_eq_true rfl) (Nat.le_of_ble_eq_true rfl) (cLi (pc := 26) h dX13_hasTeacher_26 rfl (jCNe (pc := 27) h dX13_hasTeacher_27 rfl (k20) (cC (pc := 30) h dX13_hasTeacher_30 rfl (zZ (pc := 31) h hm (Nat.le_refl _) dX13_hasTeacher_31)))))))))))))))))
set_option maxRecDepth 20000 in
theorem lX13_hasTeacher_2 (n : Nat) (a1 : Int32) (a2 : Int32) (a3 : Int32) (m : qM) : tX13_hasTeacher_2 (wX13_hasTeacher_20 (fX13_hasTeacher_20 (fX13_hasTeacher_2 n))) [some (.ref 98), some (.int a1), some (.int a2), some (.int a3)] [] m = fX13_hasTeacher_2 (n + 1) a1 a2 a3 m := rfl
theorem bX13_hasTeacher_2 {C : qCx} {w : qWp} (h : qOk C w RX13 cX13_hasTeacher 4 0 155 155) (hm : qMt C (some .boolean)) (hx : qNx C) : ∀ n : Nat, qSnd C w 4 155 (qQf C w 155 155 jI) qfin 155 2 (wX13_hasTeacher_2 (fX13_hasTeacher_2 n))
  | 0 => qSnd_of0 (fun lo st m x hr0 => by
    unfold wX13_hasTeacher_2 at hr0
    split at hr0
    · cases hr0
    · cases hr0)
  | n + 1 => by
    have ih := bX13_hasTeacher_2 h hm hx n
    exact qSnd_of (fun lo st m x hr0 => by
    unfold wX13_hasTeacher_2 at hr0
    split at hr0
    · exact ⟨_, (qsub_e (qsub_e (qsub_e (qsub_e qsub_nil)))), (lX13_hasTeacher_2 n _ _ _ _).trans hr0⟩
    · cases hr0) (sX13_hasTeacher_2 h hm hx (bX13_hasTeacher_20 h hm hx ih))
noncomputable def tX13_hasTeacher_0 (j2 : qT (Int32 × qM)) : qT (Int32 × qM) :=
  oC (.int (0 : Int32)) (oSi 3 (j2))
set_option maxRecDepth 20000 in
theorem sX13_hasTeacher_0 {C : qCx} {w : qWp} (h : qOk C w RX13 cX13_hasTeacher 4 0 155 155) (hm : qMt C (some .boolean)) (hx : qNx C) {j2 : qT (Int32 × qM)} (k2 : qSnd C w 4 155 (qQf C w 155 155 jI) qfin 155 2 j2) : qSnd C w 4 155 (qQf C w 155 155 jI) qfin 155 0 (tX13_hasTeacher_0 j2) :=
  cC (pc := 0) h dX13_hasTeacher_0 rfl (cSi (pc := 1) h dX13_hasTeacher_1 rfl (k2))
set_option maxRecDepth 20000 in
theorem lX13_hasTeacher_0 (a1 : Int32) (a2 : Int32) (m : qM) : tX13_hasTeacher_0 (wX13_hasTeacher_2 (fX13_hasTeacher_2 FU)) [some (.ref 98), some (.int a1), some (.int a2), none] [] m = fX13_hasTeacher_0 a1 a2 m := rfl
noncomputable def GX13_hasTeacher : qG Int32 := fun av m => match av with
  | [.ref 98, .int a1, .int a2] => fX13_hasTeacher a1 a2 m
  | _ => none
theorem spX13_hasTeacher : qSpI yX13_hasTeacher (.code yX13_hasTeacher cX13_hasTeacher 4 (some .boolean)) 0 qfin 155 155 1 GX13_hasTeacher := by
  intro av m x m' hG
  unfold GX13_hasTeacher at hG
  split at hG
  · rename_i a1 a2
    rw [fX13_hasTeacher_d] at hG
    exact ⟨qmeet (J := jI) (r := (x, m')) (av := [.ref 98, .int a1, .int a2]) (by decide +kernel) (Nat.le_of_ble_eq_true rfl) (fun C w h hm hx hn => sX13_hasTeacher_0 h hm hx (bX13_hasTeacher_2 h hm hx FU)) ((lX13_hasTeacher_0 _ _ _).trans hG) (Nat.le_of_ble_eq_true rfl), Or.inl ⟨98, _, 13, _, _, rfl, by decide, rfl, qCk_13, rfl⟩⟩
  · cases hG
theorem im_X13_hasTeacher : Jvm.Cond.instanceMethod yX13_hasTeacher ∈ qTw := qm8 (List.mem_of_getElem? (i := 160) (by decide +kernel)) (by decide +kernel)
theorem se_X13_hasTeacher : Jvm.Cond.selects yX13_hasTeacher.cls yX13_hasTeacher yX13_hasTeacher ∈ qTw := List.mem_filter.mpr ⟨List.mem_append_left _ (List.mem_of_getElem? (i := 55) (by decide +kernel)), rfl⟩
theorem co_X13_hasTeacher : Jvm.Cond.code yX13_hasTeacher cX13_hasTeacher 4 (some .boolean) ∈ qTw := qm8 (List.mem_of_getElem? (i := 161) (by decide +kernel)) (by decide +kernel)
theorem yk_X13_hasTeacher : qYk yX13_hasTeacher 2 := ⟨⟨by decide +kernel, by decide +kernel⟩, by decide +kernel⟩
theorem ml_X13_369 : Jvm.Cond.methodLink RX13 369 yX13_hasTeacher ∈ qTw := qm8 (List.mem_of_getElem? (i := 158) (by decide +kernel)) (by decide +kernel)
theorem kd_X13_369 {C : qCx} {w : qWp} {cc : ByteArray} {nL dp n0 n1 pc : Nat} (h : qOk C w RX13 cc nL dp n0 n1) (d : decode cc pc = .ok (.invokevirtual 369, 3)) : qCallOk C w nL dp n0 n1 pc 3 1 yX13_hasTeacher (.code yX13_hasTeacher cX13_hasTeacher 4 (some .boolean)) := kindV h d ml_X13_369 im_X13_hasTeacher se_X13_hasTeacher in_ParentEveModel co_X13_hasTeacher yk_X13_hasTeacher (by decide)
theorem dX13_mayBe_0 : decode cX13_mayBe 0 = .ok (.aload_n 0, 1) := by decide +kernel
theorem dX13_mayBe_1 : decode cX13_mayBe 1 = .ok (.getfield 215, 3) := by decide +kernel
theorem dX13_mayBe_4 : decode cX13_mayBe 4 = .ok (.iload_n 1, 1) := by decide +kernel
theorem dX13_mayBe_5 : decode cX13_mayBe 5 = .ok (.iaload, 1) := by decide +kernel
theorem dX13_mayBe_6 : decode cX13_mayBe 6 = .ok (.istore_n 3, 1) := by decide +kernel
theorem dX13_mayBe_7 : decode cX13_mayBe 7 = .ok (.aload_n 0, 1) := by decide +kernel
theorem dX13_mayBe_8 : decode cX13_mayBe 8 = .ok (.getfield 218, 3) := by decide +kernel
theorem dX13_mayBe_11 : decode cX13_mayBe 11 = .ok (.iload_n 1, 1) := by decide +kernel
theorem dX13_mayBe_12 : decode cX13_mayBe 12 = .ok (.iaload, 1) := by decide +kernel
theorem dX13_mayBe_13 : decode cX13_mayBe 13 = .ok (.istore 4, 2) := by decide +kernel
theorem dX13_mayBe_15 : decode cX13_mayBe 15 = .ok (.iload_n 2, 1) := by decide +kernel
theorem dX13_mayBe_16 : decode cX13_mayBe 16 = .ok (.i2l, 1) := by decide +kernel
theorem dX13_mayBe_17 : decode cX13_mayBe 17 = .ok (.aload_n 0, 1) := by decide +kernel
theorem dX13_mayBe_18 : decode cX13_mayBe 18 = .ok (.getfield 188, 3) := by decide +kernel
theorem dX13_mayBe_21 : decode cX13_mayBe 21 = .ok (.iload 4, 2) := by decide +kernel
theorem dX13_mayBe_23 : decode cX13_mayBe 23 = .ok (.iaload, 1) := by decide +kernel
theorem dX13_mayBe_24 : decode cX13_mayBe 24 = .ok (.i2l, 1) := by decide +kernel
theorem dX13_mayBe_25 : decode cX13_mayBe 25 = .ok (.aload_n 0, 1) := by decide +kernel
theorem dX13_mayBe_26 : decode cX13_mayBe 26 = .ok (.getfield 191, 3) := by decide +kernel
theorem dX13_mayBe_29 : decode cX13_mayBe 29 = .ok (.iload 4, 2) := by decide +kernel
theorem dX13_mayBe_31 : decode cX13_mayBe 31 = .ok (.iaload, 1) := by decide +kernel
theorem dX13_mayBe_32 : decode cX13_mayBe 32 = .ok (.i2l, 1) := by decide +kernel
theorem dX13_mayBe_33 : decode cX13_mayBe 33 = .ok (.invokestatic 66, 3) := by decide +kernel
theorem dX13_mayBe_36 : decode cX13_mayBe 36 = .ok (.ifCond .eq 25, 3) := by decide +kernel
theorem dX13_mayBe_39 : decode cX13_mayBe 39 = .ok (.iload_n 2, 1) := by decide +kernel
theorem dX13_mayBe_40 : decode cX13_mayBe 40 = .ok (.i2l, 1) := by decide +kernel
theorem dX13_mayBe_41 : decode cX13_mayBe 41 = .ok (.aload_n 0, 1) := by decide +kernel
theorem dX13_mayBe_42 : decode cX13_mayBe 42 = .ok (.getfield 194, 3) := by decide +kernel
theorem dX13_mayBe_45 : decode cX13_mayBe 45 = .ok (.iload_n 3, 1) := by decide +kernel
theorem dX13_mayBe_46 : decode cX13_mayBe 46 = .ok (.iaload, 1) := by decide +kernel
theorem dX13_mayBe_47 : decode cX13_mayBe 47 = .ok (.i2l, 1) := by decide +kernel
theorem dX13_mayBe_48 : decode cX13_mayBe 48 = .ok (.aload_n 0, 1) := by decide +kernel
theorem dX13_mayBe_49 : decode cX13_mayBe 49 = .ok (.getfield 197, 3) := by decide +kernel
theorem dX13_mayBe_52 : decode cX13_mayBe 52 = .ok (.iload_n 3, 1) := by decide +kernel
theorem dX13_mayBe_53 : decode cX13_mayBe 53 = .ok (.iaload, 1) := by decide +kernel
theorem dX13_mayBe_54 : decode cX13_mayBe 54 = .ok (.i2l, 1) := by decide +kernel
theorem dX13_mayBe_55 : decode cX13_mayBe 55 = .ok (.invokestatic 66, 3) := by decide +kernel
theorem dX13_mayBe_58 : decode cX13_mayBe 58 = .ok (.ifCond .ne 5, 3) := by decide +kernel
theorem dX13_mayBe_61 : decode cX13_mayBe 61 = .ok (.iconst 0, 1) := by decide +kernel
theorem dX13_mayBe_62 : decode cX13_mayBe 62 = .ok (.ireturn, 1) := by decide +kernel
theorem dX13_mayBe_63 : decode cX13_mayBe 63 = .ok (.iconst 0, 1) := by decide +kernel
theorem dX13_mayBe_64 : decode cX13_mayBe 64 = .ok (.istore 5, 2) := by decide +kernel
theorem dX13_mayBe_66 : decode cX13_mayBe 66 = .ok (.iload 5, 2) := by decide +kernel
theorem dX13_mayBe_68 : decode cX13_mayBe 68 = .ok (.aload_n 0, 1) := by decide +kernel
theorem dX13_mayBe_69 : decode cX13_mayBe 69 = .ok (.getfield 313, 3) := by decide +kernel
theorem dX13_mayBe_72 : decode cX13_mayBe 72 = .ok (.if_icmp .ge 174, 3) := by decide +kernel
theorem dX13_mayBe_75 : decode cX13_mayBe 75 = .ok (.iload 5, 2) := by decide +kernel
theorem dX13_mayBe_77 : decode cX13_mayBe 77 = .ok (.iload_n 1, 1) := by decide +kernel
theorem dX13_mayBe_78 : decode cX13_mayBe 78 = .ok (.if_icmp .eq 162, 3) := by decide +kernel
theorem dX13_mayBe_81 : decode cX13_mayBe 81 = .ok (.aload_n 0, 1) := by decide +kernel
theorem dX13_mayBe_82 : decode cX13_mayBe 82 = .ok (.getfield 221, 3) := by decide +kernel
theorem dX13_mayBe_85 : decode cX13_mayBe 85 = .ok (.iload 5, 2) := by decide +kernel
theorem dX13_mayBe_87 : decode cX13_mayBe 87 = .ok (.iaload, 1) := by decide +kernel
theorem dX13_mayBe_88 : decode cX13_mayBe 88 = .ok (.iconst (-1), 1) := by decide +kernel
theorem dX13_mayBe_89 : decode cX13_mayBe 89 = .ok (.if_icmp .ne 6, 3) := by decide +kernel
theorem dX13_mayBe_92 : decode cX13_mayBe 92 = .ok (.goto 148, 3) := by decide +kernel
theorem dX13_mayBe_95 : decode cX13_mayBe 95 = .ok (.aload_n 0, 1) := by decide +kernel
theorem dX13_mayBe_96 : decode cX13_mayBe 96 = .ok (.getfield 221, 3) := by decide +kernel
theorem dX13_mayBe_99 : decode cX13_mayBe 99 = .ok (.iload 5, 2) := by decide +kernel
theorem dX13_mayBe_101 : decode cX13_mayBe 101 = .ok (.iaload, 1) := by decide +kernel
theorem dX13_mayBe_102 : decode cX13_mayBe 102 = .ok (.iload_n 2, 1) := by decide +kernel
theorem dX13_mayBe_103 : decode cX13_mayBe 103 = .ok (.isub, 1) := by decide +kernel
theorem dX13_mayBe_104 : decode cX13_mayBe 104 = .ok (.invokestatic 361, 3) := by decide +kernel
theorem dX13_mayBe_107 : decode cX13_mayBe 107 = .ok (.istore 6, 2) := by decide +kernel
theorem dX13_mayBe_109 : decode cX13_mayBe 109 = .ok (.aload_n 0, 1) := by decide +kernel
theorem dX13_mayBe_110 : decode cX13_mayBe 110 = .ok (.getfield 215, 3) := by decide +kernel
theorem dX13_mayBe_113 : decode cX13_mayBe 113 = .ok (.iload 5, 2) := by decide +kernel
theorem dX13_mayBe_115 : decode cX13_mayBe 115 = .ok (.iaload, 1) := by decide +kernel
theorem dX13_mayBe_116 : decode cX13_mayBe 116 = .ok (.istore 7, 2) := by decide +kernel
theorem dX13_mayBe_118 : decode cX13_mayBe 118 = .ok (.iload 6, 2) := by decide +kernel
theorem dX13_mayBe_120 : decode cX13_mayBe 120 = .ok (.ifCond .ne 48, 3) := by decide +kernel
theorem dX13_mayBe_123 : decode cX13_mayBe 123 = .ok (.iload 7, 2) := by decide +kernel
theorem dX13_mayBe_125 : decode cX13_mayBe 125 = .ok (.iload_n 3, 1) := by decide +kernel
theorem dX13_mayBe_126 : decode cX13_mayBe 126 = .ok (.if_icmp .eq 40, 3) := by decide +kernel
theorem dX13_mayBe_129 : decode cX13_mayBe 129 = .ok (.aload_n 0, 1) := by decide +kernel
theorem dX13_mayBe_130 : decode cX13_mayBe 130 = .ok (.getfield 218, 3) := by decide +kernel
theorem dX13_mayBe_133 : decode cX13_mayBe 133 = .ok (.iload 5, 2) := by decide +kernel
theorem dX13_mayBe_135 : decode cX13_mayBe 135 = .ok (.iaload, 1) := by decide +kernel
theorem dX13_mayBe_136 : decode cX13_mayBe 136 = .ok (.iload 4, 2) := by decide +kernel
theorem dX13_mayBe_138 : decode cX13_mayBe 138 = .ok (.if_icmp .eq 28, 3) := by decide +kernel
theorem dX13_mayBe_141 : decode cX13_mayBe 141 = .ok (.aload_n 0, 1) := by decide +kernel
theorem dX13_mayBe_142 : decode cX13_mayBe 142 = .ok (.getfield 200, 3) := by decide +kernel
theorem dX13_mayBe_145 : decode cX13_mayBe 145 = .ok (.iload_n 3, 1) := by decide +kernel
theorem dX13_mayBe_146 : decode cX13_mayBe 146 = .ok (.iaload, 1) := by decide +kernel
theorem dX13_mayBe_147 : decode cX13_mayBe 147 = .ok (.ifCond .le 21, 3) := by decide +kernel
theorem dX13_mayBe_150 : decode cX13_mayBe 150 = .ok (.aload_n 0, 1) := by decide +kernel
theorem dX13_mayBe_151 : decode cX13_mayBe 151 = .ok (.getfield 200, 3) := by decide +kernel
theorem dX13_mayBe_154 : decode cX13_mayBe 154 = .ok (.iload 7, 2) := by decide +kernel
theorem dX13_mayBe_156 : decode cX13_mayBe 156 = .ok (.iaload, 1) := by decide +kernel
theorem dX13_mayBe_157 : decode cX13_mayBe 157 = .ok (.aload_n 0, 1) := by decide +kernel
theorem dX13_mayBe_158 : decode cX13_mayBe 158 = .ok (.getfield 200, 3) := by decide +kernel
theorem dX13_mayBe_161 : decode cX13_mayBe 161 = .ok (.iload_n 3, 1) := by decide +kernel
theorem dX13_mayBe_162 : decode cX13_mayBe 162 = .ok (.iaload, 1) := by decide +kernel
theorem dX13_mayBe_163 : decode cX13_mayBe 163 = .ok (.if_icmp .ne 5, 3) := by decide +kernel
theorem dX13_mayBe_166 : decode cX13_mayBe 166 = .ok (.iconst 0, 1) := by decide +kernel
theorem dX13_mayBe_167 : decode cX13_mayBe 167 = .ok (.ireturn, 1) := by decide +kernel
theorem dX13_mayBe_168 : decode cX13_mayBe 168 = .ok (.iload 7, 2) := by decide +kernel
theorem dX13_mayBe_170 : decode cX13_mayBe 170 = .ok (.iload_n 3, 1) := by decide +kernel
theorem dX13_mayBe_171 : decode cX13_mayBe 171 = .ok (.if_icmp .ne 41, 3) := by decide +kernel
theorem dX13_mayBe_174 : decode cX13_mayBe 174 = .ok (.iload 6, 2) := by decide +kernel
theorem dX13_mayBe_176 : decode cX13_mayBe 176 = .ok (.iconst 1, 1) := by decide +kernel
theorem dX13_mayBe_177 : decode cX13_mayBe 177 = .ok (.isub, 1) := by decide +kernel
theorem dX13_mayBe_178 : decode cX13_mayBe 178 = .ok (.aload_n 0, 1) := by decide +kernel
theorem dX13_mayBe_179 : decode cX13_mayBe 179 = .ok (.iload 4, 2) := by decide +kernel
theorem dX13_mayBe_181 : decode cX13_mayBe 181 = .ok (.aload_n 0, 1) := by decide +kernel
theorem dX13_mayBe_182 : decode cX13_mayBe 182 = .ok (.getfield 218, 3) := by decide +kernel
theorem dX13_mayBe_185 : decode cX13_mayBe 185 = .ok (.iload 5, 2) := by decide +kernel
theorem dX13_mayBe_187 : decode cX13_mayBe 187 = .ok (.iaload, 1) := by decide +kernel
theorem dX13_mayBe_188 : decode cX13_mayBe 188 = .ok (.invokevirtual 366, 3) := by decide +kernel
theorem dX13_mayBe_191 : decode cX13_mayBe 191 = .ok (.aload_n 0, 1) := by decide +kernel
theorem dX13_mayBe_192 : decode cX13_mayBe 192 = .ok (.getfield 174, 3) := by decide +kernel
theorem dX13_mayBe_195 : decode cX13_mayBe 195 = .ok (.iconst 0, 1) := by decide +kernel
theorem dX13_mayBe_196 : decode cX13_mayBe 196 = .ok (.iaload, 1) := by decide +kernel
theorem dX13_mayBe_197 : decode cX13_mayBe 197 = .ok (.iadd, 1) := by decide +kernel
theorem dX13_mayBe_198 : decode cX13_mayBe 198 = .ok (.iconst 1, 1) := by decide +kernel
theorem dX13_mayBe_199 : decode cX13_mayBe 199 = .ok (.isub, 1) := by decide +kernel
theorem dX13_mayBe_200 : decode cX13_mayBe 200 = .ok (.aload_n 0, 1) := by decide +kernel
theorem dX13_mayBe_201 : decode cX13_mayBe 201 = .ok (.getfield 174, 3) := by decide +kernel
theorem dX13_mayBe_204 : decode cX13_mayBe 204 = .ok (.iconst 0, 1) := by decide +kernel
theorem dX13_mayBe_205 : decode cX13_mayBe 205 = .ok (.iaload, 1) := by decide +kernel
theorem dX13_mayBe_206 : decode cX13_mayBe 206 = .ok (.idiv, 1) := by decide +kernel
theorem dX13_mayBe_207 : decode cX13_mayBe 207 = .ok (.if_icmp .ge 5, 3) := by decide +kernel
theorem dX13_mayBe_210 : decode cX13_mayBe 210 = .ok (.iconst 0, 1) := by decide +kernel
theorem dX13_mayBe_211 : decode cX13_mayBe 211 = .ok (.ireturn, 1) := by decide +kernel
theorem dX13_mayBe_212 : decode cX13_mayBe 212 = .ok (.aload_n 0, 1) := by decide +kernel
theorem dX13_mayBe_213 : decode cX13_mayBe 213 = .ok (.getfield 212, 3) := by decide +kernel
theorem dX13_mayBe_216 : decode cX13_mayBe 216 = .ok (.bipush 15, 2) := by decide +kernel
theorem dX13_mayBe_218 : decode cX13_mayBe 218 = .ok (.iload_n 3, 1) := by decide +kernel
theorem dX13_mayBe_219 : decode cX13_mayBe 219 = .ok (.imul, 1) := by decide +kernel
theorem dX13_mayBe_220 : decode cX13_mayBe 220 = .ok (.iload 7, 2) := by decide +kernel
theorem dX13_mayBe_222 : decode cX13_mayBe 222 = .ok (.iadd, 1) := by decide +kernel
theorem dX13_mayBe_223 : decode cX13_mayBe 223 = .ok (.baload, 1) := by decide +kernel
theorem dX13_mayBe_224 : decode cX13_mayBe 224 = .ok (.ifCond .eq 16, 3) := by decide +kernel
theorem dX13_mayBe_227 : decode cX13_mayBe 227 = .ok (.iload 6, 2) := by decide +kernel
theorem dX13_mayBe_229 : decode cX13_mayBe 229 = .ok (.aload_n 0, 1) := by decide +kernel
theorem dX13_mayBe_230 : decode cX13_mayBe 230 = .ok (.getfield 174, 3) := by decide +kernel
theorem dX13_mayBe_233 : decode cX13_mayBe 233 = .ok (.iconst 5, 1) := by decide +kernel
theorem dX13_mayBe_234 : decode cX13_mayBe 234 = .ok (.iaload, 1) := by decide +kernel
theorem dX13_mayBe_235 : decode cX13_mayBe 235 = .ok (.if_icmp .gt 5, 3) := by decide +kernel
theorem dX13_mayBe_238 : decode cX13_mayBe 238 = .ok (.iconst 0, 1) := by decide +kernel
theorem dX13_mayBe_239 : decode cX13_mayBe 239 = .ok (.ireturn, 1) := by decide +kernel
theorem dX13_mayBe_240 : decode cX13_mayBe 240 = .ok (.iinc 5 1, 3) := by decide +kernel
theorem dX13_mayBe_243 : decode cX13_mayBe 243 = .ok (.goto (-177), 3) := by decide +kernel
theorem dX13_mayBe_246 : decode cX13_mayBe 246 = .ok (.aload_n 0, 1) := by decide +kernel
theorem dX13_mayBe_247 : decode cX13_mayBe 247 = .ok (.getfield 174, 3) := by decide +kernel
theorem dX13_mayBe_250 : decode cX13_mayBe 250 = .ok (.iconst 4, 1) := by decide +kernel
theorem dX13_mayBe_251 : decode cX13_mayBe 251 = .ok (.iaload, 1) := by decide +kernel
theorem dX13_mayBe_252 : decode cX13_mayBe 252 = .ok (.ifCond .ne 5, 3) := by decide +kernel
theorem dX13_mayBe_255 : decode cX13_mayBe 255 = .ok (.iconst 1, 1) := by decide +kernel
theorem dX13_mayBe_256 : decode cX13_mayBe 256 = .ok (.ireturn, 1) := by decide +kernel
theorem dX13_mayBe_257 : decode cX13_mayBe 257 = .ok (.iconst 1, 1) := by decide +kernel
theorem dX13_mayBe_258 : decode cX13_mayBe 258 = .ok (.istore 5, 2) := by decide +kernel
theorem dX13_mayBe_260 : decode cX13_mayBe 260 = .ok (.iload_n 2, 1) := by decide +kernel
theorem dX13_mayBe_261 : decode cX13_mayBe 261 = .ok (.iconst 1, 1) := by decide +kernel
theorem dX13_mayBe_262 : decode cX13_mayBe 262 = .ok (.isub, 1) := by decide +kernel
theorem dX13_mayBe_263 : decode cX13_mayBe 263 = .ok (.istore 6, 2) := by decide +kernel
theorem dX13_mayBe_265 : decode cX13_mayBe 265 = .ok (.iload 6, 2) := by decide +kernel
theorem dX13_mayBe_267 : decode cX13_mayBe 267 = .ok (.ifCond .lt 23, 3) := by decide +kernel
theorem dX13_mayBe_270 : decode cX13_mayBe 270 = .ok (.aload_n 0, 1) := by decide +kernel
theorem dX13_mayBe_271 : decode cX13_mayBe 271 = .ok (.iload 4, 2) := by decide +kernel
theorem dX13_mayBe_273 : decode cX13_mayBe 273 = .ok (.iload 6, 2) := by decide +kernel
theorem dX13_mayBe_275 : decode cX13_mayBe 275 = .ok (.invokevirtual 369, 3) := by decide +kernel
theorem dX13_mayBe_278 : decode cX13_mayBe 278 = .ok (.ifCond .eq 12, 3) := by decide +kernel
theorem dX13_mayBe_281 : decode cX13_mayBe 281 = .ok (.iinc 5 1, 3) := by decide +kernel
theorem dX13_mayBe_284 : decode cX13_mayBe 284 = .ok (.iinc 6 (-1), 3) := by decide +kernel
theorem dX13_mayBe_287 : decode cX13_mayBe 287 = .ok (.goto (-22), 3) := by decide +kernel
theorem dX13_mayBe_290 : decode cX13_mayBe 290 = .ok (.iload_n 2, 1) := by decide +kernel
theorem dX13_mayBe_291 : decode cX13_mayBe 291 = .ok (.iconst 1, 1) := by decide +kernel
theorem dX13_mayBe_292 : decode cX13_mayBe 292 = .ok (.iadd, 1) := by decide +kernel
theorem dX13_mayBe_293 : decode cX13_mayBe 293 = .ok (.istore 6, 2) := by decide +kernel
theorem dX13_mayBe_295 : decode cX13_mayBe 295 = .ok (.iload 6, 2) := by decide +kernel
theorem dX13_mayBe_297 : decode cX13_mayBe 297 = .ok (.bipush 20, 2) := by decide +kernel
theorem dX13_mayBe_299 : decode cX13_mayBe 299 = .ok (.if_icmp .ge 23, 3) := by decide +kernel
theorem dX13_mayBe_302 : decode cX13_mayBe 302 = .ok (.aload_n 0, 1) := by decide +kernel
theorem dX13_mayBe_303 : decode cX13_mayBe 303 = .ok (.iload 4, 2) := by decide +kernel
theorem dX13_mayBe_305 : decode cX13_mayBe 305 = .ok (.iload 6, 2) := by decide +kernel
theorem dX13_mayBe_307 : decode cX13_mayBe 307 = .ok (.invokevirtual 369, 3) := by decide +kernel
theorem dX13_mayBe_310 : decode cX13_mayBe 310 = .ok (.ifCond .eq 12, 3) := by decide +kernel
theorem dX13_mayBe_313 : decode cX13_mayBe 313 = .ok (.iinc 5 1, 3) := by decide +kernel
theorem dX13_mayBe_316 : decode cX13_mayBe 316 = .ok (.iinc 6 1, 3) := by decide +kernel
theorem dX13_mayBe_319 : decode cX13_mayBe 319 = .ok (.goto (-24), 3) := by decide +kernel
theorem dX13_mayBe_322 : decode cX13_mayBe 322 = .ok (.iload 5, 2) := by decide +kernel
theorem dX13_mayBe_324 : decode cX13_mayBe 324 = .ok (.aload_n 0, 1) := by decide +kernel
theorem dX13_mayBe_325 : decode cX13_mayBe 325 = .ok (.getfield 174, 3) := by decide +kernel
theorem dX13_mayBe_328 : decode cX13_mayBe 328 = .ok (.iconst 4, 1) := by decide +kernel
theorem dX13_mayBe_329 : decode cX13_mayBe 329 = .ok (.iaload, 1) := by decide +kernel
theorem dX13_mayBe_330 : decode cX13_mayBe 330 = .ok (.if_icmp .gt 7, 3) := by decide +kernel
theorem dX13_mayBe_333 : decode cX13_mayBe 333 = .ok (.iconst 1, 1) := by decide +kernel
theorem dX13_mayBe_334 : decode cX13_mayBe 334 = .ok (.goto 4, 3) := by decide +kernel
theorem dX13_mayBe_337 : decode cX13_mayBe 337 = .ok (.iconst 0, 1) := by decide +kernel
theorem dX13_mayBe_338 : decode cX13_mayBe 338 = .ok (.ireturn, 1) := by decide +kernel
noncomputable def tX13_mayBe_38 : qT (Int32 × qM) :=
  oC (.int (0 : Int32)) (eZ)
noncomputable def wX13_mayBe_38 (k : qM → Option (Int32 × qM)) : qT (Int32 × qM) := fun lo st m => match lo, st with
  | [_, _, _, _, _, _, _, _], [] => k m
  | _, _ => none
set_option maxRecDepth 20000 in
theorem sX13_mayBe_38 {C : qCx} {w : qWp} (h : qOk C w RX13 cX13_mayBe 8 2 155 155) (hm : qMt C (some .boolean)) (hx : qNx C) : qSnd C w 8 155 (qQf C w 155 155 jI) qfin 155 61 (tX13_mayBe_38) :=
  cC (pc := 61) h dX13_mayBe_61 rfl (zZ (pc := 62) h hm (Nat.le_refl _) dX13_mayBe_62)
set_option maxRecDepth 20000 in
theorem lX13_mayBe_38 (m : qM) : tX13_mayBe_38 [none, none, none, none, none, none, none, none] [] m = fX13_mayBe_38 m := rfl
theorem bX13_mayBe_38 {C : qCx} {w : qWp} (h : qOk C w RX13 cX13_mayBe 8 2 155 155) (hm : qMt C (some .boolean)) (hx : qNx C) : qSnd C w 8 155 (qQf C w 155 155 jI) qfin 155 61 (wX13_mayBe_38 fX13_mayBe_38) :=
  qSnd_of (fun lo st m x hr0 => by
    unfold wX13_mayBe_38 at hr0
    split at hr0
    · exact ⟨_, (qsub_n (qsub_n (qsub_n (qsub_n (qsub_n (qsub_n (qsub_n (qsub_n qsub_nil)))))))), (lX13_mayBe_38 _).trans hr0⟩
    · cases hr0) (sX13_mayBe_38 h hm hx)
noncomputable def tX13_mayBe_141 (j42 : qT (Int32 × qM)) : qT (Int32 × qM) :=
  oInc 5 (1 : Int32) (j42)
noncomputable def wX13_mayBe_141 (k : Int32 → Int32 → Int32 → Int32 → Int32 → qM → Option (Int32 × qM)) : qT (Int32 × qM) := fun lo st m => match lo, st with
  | [some (.ref 98), some (.int a1), some (.int a2), some (.int a3), some (.int a4), some (.int a5), _, _], [] => k a1 a2 a3 a4 a5 m
  | _, _ => none
noncomputable def wX13_mayBe_42 (k : Int32 → Int32 → Int32 → Int32 → Int32 → qM → Option (Int32 × qM)) : qT (Int32 × qM) := fun lo st m => match lo, st with
  | [some (.ref 98), some (.int a1), some (.int a2), some (.int a3), some (.int a4), some (.int a5), _, _], [] => k a1 a2 a3 a4 a5 m
  | _, _ => none
set_option maxRecDepth 20000 in
theorem sX13_mayBe_141 {C : qCx} {w : qWp} (h : qOk C w RX13 cX13_mayBe 8 2 155 155) (hm : qMt C (some .boolean)) (hx : qNx C) {j42 : qT (Int32 × qM)} (k42 : qSnd C w 8 155 (qQf C w 155 155 jI) qfin 155 66 j42) : qSnd C w 8 155 (qQf C w 155 155 jI) qfin 155 240 (tX13_mayBe_141 j42) :=
  cInc (pc := 240) h dX13_mayBe_240 rfl (jGo (pc := 243) h dX13_mayBe_243 rfl (k42))
set_option maxRecDepth 20000 in
theorem lX13_mayBe_141 (k42 : Int32 → Int32 → Int32 → Int32 → Int32 → qM → Option (Int32 × qM)) (a1 : Int32) (a2 : Int32) (a3 : Int32) (a4 : Int32) (a5 : Int32) (m : qM) : tX13_mayBe_141 (wX13_mayBe_42 k42) [some (.ref 98), some (.int a1), some (.int a2), some (.int a3), some (.int a4), some (.int a5), none, none] [] m = fX13_mayBe_141 k42 a1 a2 a3 a4 a5 m := rfl
theorem bX13_mayBe_141 {C : qCx} {w : qWp} (h : qOk C w RX13 cX13_mayBe 8 2 155 155) (hm : qMt C (some .boolean)) (hx : qNx C) {k42 : Int32 → Int32 → Int32 → Int32 → Int32 → qM → Option (Int32 × qM)} (h42 : qSnd C w 8 155 (qQf C w 155 155 jI) qfin 155 66 (wX13_mayBe_42 k42)) : qSnd C w 8 155 (qQf C w 155 155 jI) qfin 155 240 (wX13_mayBe_141 (fX13_mayBe_141 k42)) :=
  qSnd_of (fun lo st m x hr0 => by
    unfold wX13_mayBe_141 at hr0
    split at hr0
    · exact ⟨_, (qsub_e (qsub_e (qsub_e (qsub_e (qsub_e (qsub_e (qsub_n (qsub_n qsub_nil)))))))), (lX13_mayBe_141 _ _ _ _ _ _ _).trans hr0⟩
    · cases hr0) (sX13_mayBe_141 h hm hx h42)
noncomputable def tX13_mayBe_124 (j141 : qT (Int32 × qM)) : qT (Int32 × qM) :=
  oLa 0 (oGf 98 31 122 (oC (.int (15 : Int32)) (oLi 3 (o2 (· * ·) (oLi 7 (o2 (· + ·) (oAi 122 225 (oEq (j141) (oLi 6 (oLa 0 (oGf 98 0 99 (oC (.int (5 : Int32)) (oAi 99 6 (oCGt (j141) (oC (.int (0 : Int32)) (eZ))))))))))))))))
noncomputable def wX13_mayBe_124 (k : Int32 → Int32 → Int32 → Int32 → Int32 → Int32 → Int32 → qM → Option (Int32 × qM)) : qT (Int32 × qM) := fun lo st m => match lo, st with
  | [some (.ref 98), some (.int a1), some (.int a2), some (.int a3), some (.int a4), some (.int a5), some (.int a6), some (.int a7)], [] => k a1 a2 a3 a4 a5 a6 a7 m
  | _, _ => none
set_option maxRecDepth 20000 in
theorem sX13_mayBe_124 {C : qCx} {w : qWp} (h : qOk C w RX13 cX13_mayBe 8 2 155 155) (hm : qMt C (some .boolean)) (hx : qNx C) {j141 : qT (Int32 × qM)} (k141 : qSnd C w 8 155 (qQf C w 155 155 jI) qfin 155 240 j141) : qSnd C w 8 155 (qQf C w 155 155 jI) qfin 155 212 (tX13_mayBe_124 j141) :=
  cLa (pc := 212) h dX13_mayBe_212 rfl (gGf (pc := 213) h dX13_mayBe_213 ff_X13_212_98 (Nat.le_of_ble_eq_true rfl) (Nat.le_of_ble_eq_true rfl) rfl (cB (pc := 216) h dX13_mayBe_216 rfl (cLi (pc := 218) h dX13_mayBe_218 rfl (aMul (pc := 219) h dX13_mayBe_219 (cLI (pc := 220) h dX13_mayBe_220 (aAdd (pc := 222) h dX13_mayBe_222 (rAz (pc := 223) h dX13_mayBe_223 rfl (Nat.le_of_ble_eq_true rfl) (Nat.le_of_ble_eq_true rfl) (jEq (pc := 224) h dX13_mayBe_224 rfl (k141) (cLI (pc := 227) h dX13_mayBe_227 (cLa (pc := 229) h dX13_mayBe_229 rfl (gGf (pc := 230) h dX13_mayBe_230 ff_X13_174_98 (Nat.le_of_ble_eq_true rfl) (Nat.le_of_ble_eq_true rfl) rfl (cC (pc := 233) h dX13_mayBe_233 rfl (rAi (pc := 234) h dX13_mayBe_234 rfl (Nat.le_of_ble_eq_true rfl) (Nat.le_of_ble_eq_true rfl) (jCGt (pc := 235) h dX13_mayBe_235 rfl (k141) (cC (pc := 238) h dX13_mayBe_238 rfl (zZ (pc := 239) h hm (Nat.le_refl _) dX13_mayBe_239))))))))))))))))
set_option maxRecDepth 20000 in
theorem lX13_mayBe_124 (k42 : Int32 → Int32 → Int32 → Int32 → Int32 → qM → Option (Int32 × qM)) (a1 : Int32) (a2 : Int32) (a3 : Int32) (a4 : Int32) (a5 : Int32) (a6 : Int32) (a7 : Int32) (m : qM) : tX13_mayBe_124 (wX13_mayBe_141 (fX13_mayBe_141 k42)) [some (.ref 98), some (.int a1), some (.int a2), some (.int a3), some (.int a4), some (.int a5), some (.int a6), some (.int a7)] [] m = fX13_mayBe_124 k42 a1 a2 a3 a4 a5 a6 a7 m := rfl
theorem bX13_mayBe_124 {C : qCx} {w : qWp} (h : qOk C w RX13 cX13_mayBe 8 2 155 155) (hm : qMt C (some .boolean)) (hx : qNx C) {k42 : Int32 → Int32 → Int32 → Int32 → Int32 → qM → Option (Int32 × qM)} (h42 : qSnd C w 8 155 (qQf C w 155 155 jI) qfin 155 66 (wX13_mayBe_42 k42)) : qSnd C w 8 155 (qQf C w 155 155 jI) qfin 155 212 (wX13_mayBe_124 (fX13_mayBe_124 k42)) :=
  qSnd_of (fun lo st m x hr0 => by
    unfold wX13_mayBe_124 at hr0
    split at hr0
    · exact ⟨_, (qsub_e (qsub_e (qsub_e (qsub_e (qsub_e (qsub_e (qsub_e (qsub_e qsub_nil)))))))), (lX13_mayBe_124 _ _ _ _ _ _ _ _ _).trans hr0⟩
    · cases hr0) (sX13_mayBe_124 h hm hx (bX13_mayBe_141 h hm hx h42))
noncomputable def tX13_mayBe_96 (j124 : qT (Int32 × qM)) : qT (Int32 × qM) :=
  oLi 7 (oLi 3 (oCEq (oLi 6 (oC (.int (1 : Int32)) (o2 (· - ·) (oLa 0 (oLi 4 (oLa 0 (oGf 98 35 124 (oLi 5 (oAi 124 40 (oCi GX13_walkOf 3 (oLa 0 (oGf 98 0 99 (oC (.int (0 : Int32)) (oAi 99 6 (o2 (· + ·) (oC (.int (1 : Int32)) (o2 (· - ·) (oLa 0 (oGf 98 0 99 (oC (.int (0 : Int32)) (oAi 99 6 (oDiv (oCGe (j124) (oC (.int (0 : Int32)) (eZ))))))))))))))))))))))))) (j124)))
noncomputable def wX13_mayBe_96 (k : Int32 → Int32 → Int32 → Int32 → Int32 → Int32 → Int32 → qM → Option (Int32 × qM)) : qT (Int32 × qM) := fun lo st m => match lo, st with
  | [some (.ref 98), some (.int a1), some (.int a2), some (.int a3), some (.int a4), some (.int a5), some (.int a6), some (.int a7)], [] => k a1 a2 a3 a4 a5 a6 a7 m
  | _, _ => none
set_option maxRecDepth 20000 in
theorem sX13_mayBe_96 {C : qCx} {w : qWp} (h : qOk C w RX13 cX13_mayBe 8 2 155 155) (hm : qMt C (some .boolean)) (hx : qNx C) {j124 : qT (Int32 × qM)} (k124 : qSnd C w 8 155 (qQf C w 155 155 jI) qfin 155 212 j124) : qSnd C w 8 155 (qQf C w 155 155 jI) qfin 155 168 (tX13_mayBe_96 j124) :=
  cLI (pc := 168) h dX13_mayBe_168 (cLi (pc := 170) h dX13_mayBe_170 rfl (jCNe (pc := 171) h dX13_mayBe_171 rfl (k124) (cLI (pc := 174) h dX13_mayBe_174 (cC (pc := 176) h dX13_mayBe_176 rfl (aSub (pc := 177) h dX13_mayBe_177 (cLa (pc := 178) h dX13_mayBe_178 rfl (cLI (pc := 179) h dX13_mayBe_179 (cLa (pc := 181) h dX13_mayBe_181 rfl (gGf (pc := 182) h dX13_mayBe_182 ff_X13_218_98 (Nat.le_of_ble_eq_true rfl) (Nat.le_of_ble_eq_true rfl) rfl (cLI (pc := 185) h dX13_mayBe_185 (rAi (pc := 187) h dX13_mayBe_187 rfl (Nat.le_of_ble_eq_true rfl) (Nat.le_of_ble_eq_true rfl) (kCi (pc := 188) h (kd_X13_366 h dX13_mayBe_188) spX13_walkOf (by decide) (by decide) (by decide) (by decide) (cLa (pc := 191) h dX13_mayBe_191 rfl (gGf (pc := 192) h dX13_mayBe_192 ff_X13_174_98 (Nat.le_of_ble_eq_true rfl) (Nat.le_of_ble_eq_true rfl) rfl (cC (pc := 195) h dX13_mayBe_195 rfl (rAi (pc := 196) h dX13_mayBe_196 rfl (Nat.le_of_ble_eq_true rfl) (Nat.le_of_ble_eq_true rfl) (aAdd (pc := 197) h dX13_mayBe_197 (cC (pc := 198) h dX13_mayBe_198 rfl (aSub (pc := 199) h dX13_mayBe_199 (cLa (pc := 200) h dX13_mayBe_200 rfl (gGf (pc := 201) h dX13_mayBe_201 ff_X13_174_98 (Nat.le_of_ble_eq_true rfl) (Nat.le_of_ble_eq_true rfl) rfl (cC (pc := 204) h dX13_mayBe_204 rfl (rAi (pc := 205) h dX13_mayBe_205 rfl (Nat.le_of_ble_eq_true rfl) (Nat.le_of_ble_eq_true rfl) (aDiv (pc := 206) h dX13_mayBe_206 (jCGe (pc := 207) h dX13_mayBe_207 rfl (k124) (cC (pc := 210) h dX13_mayBe_210 rfl (zZ (pc := 211) h hm (Nat.le_refl _) dX13_mayBe_211)))))))))))))))))))))))))))
set_option maxRecDepth 20000 in
theorem lX13_mayBe_96 (k42 : Int32 → Int32 → Int32 → Int32 → Int32 → qM → Option (Int32 × qM)) (a1 : Int32) (a2 : Int32) (a3 : Int32) (a4 : Int32) (a5 : Int32) (a6 : Int32) (a7 : Int32) (m : qM) : tX13_mayBe_96 (wX13_mayBe_124 (fX13_mayBe_124 k42)) [some (.ref 98), some (.int a1), some (.int a2), some (.int a3), some (.int a4), some (.int a5), some (.int a6), some (.int a7)] [] m = fX13_mayBe_96 k42 a1 a2 a3 a4 a5 a6 a7 m := rfl
theorem bX13_mayBe_96 {C : qCx} {w : qWp} (h : qOk C w RX13 cX13_mayBe 8 2 155 155) (hm : qMt C (some .boolean)) (hx : qNx C) {k42 : Int32 → Int32 → Int32 → Int32 → Int32 → qM → Option (Int32 × qM)} (h42 : qSnd C w 8 155 (qQf C w 155 155 jI) qfin 155 66 (wX13_mayBe_42 k42)) : qSnd C w 8 155 (qQf C w 155 155 jI) qfin 155 168 (wX13_mayBe_96 (fX13_mayBe_96 k42)) :=
  qSnd_of (fun lo st m x hr0 => by
    unfold wX13_mayBe_96 at hr0
    split at hr0
    · exact ⟨_, (qsub_e (qsub_e (qsub_e (qsub_e (qsub_e (qsub_e (qsub_e (qsub_e qsub_nil)))))))), (lX13_mayBe_96 _ _ _ _ _ _ _ _ _).trans hr0⟩
    · cases hr0) (sX13_mayBe_96 h hm hx (bX13_mayBe_124 h hm hx h42))
noncomputable def tX13_mayBe_42 (j156 : qT (Int32 × qM)) (j141 : qT (Int32 × qM)) (j96 : qT (Int32 × qM)) (j94 : qT (Int32 × qM)) : qT (Int32 × qM) :=
  oLi 5 (oLa 0 (oGi 98 32 (oCGe (oLa 0 (oGf 98 0 99 (oC (.int (4 : Int32)) (oAi 99 6 (oEq (oC (.int (1 : Int32)) (eZ)) (oC (.int (1 : Int32)) (oSi 5 (oLi 2 (oC (.int (1 : Int32)) (o2 (· - ·) (oSi 6 (j156)))))))))))) (oLi 5 (oLi 1 (oCEq (j141) (oLa 0 (oGf 98 36 125 (oLi 5 (oAi 125 40 (oC (.int (-1 : Int32)) (oCEq (j141) (oLa 0 (oGf 98 36 125 (oLi 5 (oAi 125 40 (oLi 2 (o2 (· - ·) (oCi GJ9_abs_0f7a4 1 (oSi 6 (oLa 0 (oGf 98 34 123 (oLi 5 (oAi 123 40 (oSi 7 (oLi 6 (oEq (oLi 7 (oLi 3 (oCEq (j94) (oLa 0 (oGf 98 35 124 (oLi 5 (oAi 124 40 (oLi 4 (oCEq (j94) (oLa 0 (oGf 98 27 118 (oLi 3 (oAi 118 15 (oLe (j96) (oLa 0 (oGf 98 27 118 (oLi 7 (oAi 118 15 (oLa 0 (oGf 98 27 118 (oLi 3 (oAi 118 15 (oCEq (j94) (j96)))))))))))))))))))))))) (j96))))))))))))))))))))))))))))
noncomputable def wX13_mayBe_156 (k : Int32 → Int32 → Int32 → Int32 → qM → Option (Int32 × qM)) : qT (Int32 × qM) := fun lo st m => match lo, st with
  | [some (.ref 98), _, some (.int a2), _, some (.int a4), some (.int a5), some (.int a6), _], [] => k a2 a4 a5 a6 m
  | _, _ => none
noncomputable def wX13_mayBe_94 (k : qM → Option (Int32 × qM)) : qT (Int32 × qM) := fun lo st m => match lo, st with
  | [_, _, _, _, _, _, _, _], [] => k m
  | _, _ => none
set_option maxRecDepth 20000 in
theorem sX13_mayBe_42 {C : qCx} {w : qWp} (h : qOk C w RX13 cX13_mayBe 8 2 155 155) (hm : qMt C (some .boolean)) (hx : qNx C) {j156 : qT (Int32 × qM)} {j141 : qT (Int32 × qM)} {j96 : qT (Int32 × qM)} {j94 : qT (Int32 × qM)} (k156 : qSnd C w 8 155 (qQf C w 155 155 jI) qfin 155 265 j156) (k141 : qSnd C w 8 155 (qQf C w 155 155 jI) qfin 155 240 j141) (k96 : qSnd C w 8 155 (qQf C w 155 155 jI) qfin 155 168 j96) (k94 : qSnd C w 8 155 (qQf C w 155 155 jI) qfin 155 166 j94) : qSnd C w 8 155 (qQf C w 155 155 jI) qfin 155 66 (tX13_mayBe_42 j156 j141 j96 j94) :=
  cLI (pc := 66) h dX13_mayBe_66 (cLa (pc := 68) h dX13_mayBe_68 rfl (gGi (pc := 69) h dX13_mayBe_69 ff_X13_313_98 (Nat.le_of_ble_eq_true rfl) (Nat.le_of_ble_eq_true rfl) (jCGe (pc := 72) h dX13_mayBe_72 rfl (cLa (pc := 246) h dX13_mayBe_246 rfl (gGf (pc := 247) h dX13_mayBe_247 ff_X13_174_98 (Nat.le_of_ble_eq_true rfl) (Nat.le_of_ble_eq_true rfl) rfl (cC (pc := 250) h dX13_mayBe_250 rfl (rAi (pc := 251) h dX13_mayBe_251 rfl (Nat.le_of_ble_eq_true rfl) (Nat.le_of_ble_eq_true rfl) (jNe (pc := 252) h dX13_mayBe_252 rfl (cC (pc := 257) h dX13_mayBe_257 rfl (cSI (pc := 258) h dX13_mayBe_258 (cLi (pc := 260) h dX13_mayBe_260 rfl (cC (pc := 261) h dX13_mayBe_261 rfl (aSub (pc := 262) h dX13_mayBe_262 (cSI (pc := 263) h dX13_mayBe_263 (k156))))))) (cC (pc := 255) h dX13_mayBe_255 rfl (zZ (pc := 256) h hm (Nat.le_refl _) dX13_mayBe_256))))))) (cLI (pc := 75) h dX13_mayBe_75 (cLi (pc := 77) h dX13_mayBe_77 rfl (jCEq (pc := 78) h dX13_mayBe_78 rfl (k141) (cLa (pc := 81) h dX13_mayBe_81 rfl (gGf (pc := 82) h dX13_mayBe_82 ff_X13_221_98 (Nat.le_of_ble_eq_true rfl) (Nat.le_of_ble_eq_true rfl) rfl (cLI (pc := 85) h dX13_mayBe_85 (rAi (pc := 87) h dX13_mayBe_87 rfl (Nat.le_of_ble_eq_true rfl) (Nat.le_of_ble_eq_true rfl) (cC (pc := 88) h dX13_mayBe_88 rfl (jCNe (pc := 89) h dX13_mayBe_89 rfl (cLa (pc := 95) h dX13_mayBe_95 rfl (gGf (pc := 96) h dX13_mayBe_96 ff_X13_221_98 (Nat.le_of_ble_eq_true rfl) (Nat.le_of_ble_eq_true rfl) rfl (cLI (pc := 99) h dX13_mayBe_99 (rAi (pc := 101) h dX13_mayBe_101 rfl (Nat.le_of_ble_eq_true rfl) (Nat.le_of_ble_eq_true rfl) (cLi (pc := 102) h dX13_mayBe_102 rfl (aSub (pc := 103) h dX13_mayBe_103 (kCi (pc := 104) h (kd_X13_361 h dX13_mayBe_104) spJ9_abs_0f7a4 (by decide) (by decide) (by decide) (by decide) (cSI (pc := 107) h dX13_mayBe_107 (cLa (pc := 109) h dX13_mayBe_109 rfl (gGf (pc := 110) h dX13_mayBe_110 ff_X13_215_98 (Nat.le_of_ble_eq_true rfl) (Nat.le_of_ble_eq_true rfl) rfl (cLI (pc := 113) h dX13_mayBe_113 (rAi (pc := 115) h dX13_mayBe_115 rfl (Nat.le_of_ble_eq_true rfl) (Nat.le_of_ble_eq_true rfl) (cSI (pc := 116) h dX13_mayBe_116 (cLI (pc := 118) h dX13_mayBe_118 (jNe (pc := 120) h dX13_mayBe_120 rfl (k96) (cLI (pc := 123) h dX13_mayBe_123 (cLi (pc := 125) h dX13_mayBe_125 rfl (jCEq (pc := 126) h dX13_mayBe_126 rfl (k94) (cLa (pc := 129) h dX13_mayBe_129 rfl (gGf (pc := 130) h dX13_mayBe_130 ff_X13_218_98 (Nat.le_of_ble_eq_true rfl) (Nat.le_of_ble_eq_true rfl) rfl (cLI (pc := 133) h dX13_mayBe_133 (rAi (pc := 135) h dX13_mayBe_135 rfl (Nat.le_of_ble_eq_true rfl) (Nat.le_of_ble_eq_true rfl) (cLI (pc := 136) h dX13_mayBe_136 (jCEq (pc := 138) h dX13_mayBe_138 rfl (k94) (cLa (pc := 141) h dX13_mayBe_141 rfl (gGf (pc := 142) h dX13_mayBe_142 ff_X13_200_98 (Nat.le_of_ble_eq_true rfl) (Nat.le_of_ble_eq_true rfl) rfl (cLi (pc := 145) h dX13_mayBe_145 rfl (rAi (pc := 146) h dX13_mayBe_146 rfl (Nat.le_of_ble_eq_true rfl) (Nat.le_of_ble_eq_true rfl) (jLe (pc := 147) h dX13_mayBe_147 rfl (k96) (cLa (pc := 150) h dX13_mayBe_150 rfl (gGf (pc := 151) h dX13_mayBe_151 ff_X13_200_98 (Nat.le_of_ble_eq_true rfl) (Nat.le_of_ble_eq_true rfl) rfl (cLI (pc := 154) h dX13_mayBe_154 (rAi (pc := 156) h dX13_mayBe_156 rfl (Nat.le_of_ble_eq_true rfl) (Nat.le_of_ble_eq_true rfl) (cLa (pc := 157) h dX13_mayBe_157 rfl (gGf (pc := 158) h dX13_mayBe_158 ff_X13_200_98 (Nat.le_of_ble_eq_true rfl) (Nat.le_of_ble_eq_true rfl) rfl (cLi (pc := 161) h dX13_mayBe_161 rfl (rAi (pc := 162) h dX13_mayBe_162 rfl (Nat.le_of_ble_eq_true rfl) (Nat.le_of_ble_eq_true rfl) (jCNe (pc := 163) h dX13_mayBe_163 rfl (k96) (k94))))))))))))))))))))))))))))))))))))))) (jGo (pc := 92) h dX13_mayBe_92 rfl (k141))))))))))))))
set_option maxRecDepth 20000 in
theorem lX13_mayBe_42 (k156 : Int32 → Int32 → Int32 → Int32 → qM → Option (Int32 × qM)) (k94 : qM → Option (Int32 × qM)) (n : Nat) (a1 : Int32) (a2 : Int32) (a3 : Int32) (a4 : Int32) (a5 : Int32) (m : qM) : tX13_mayBe_42 (wX13_mayBe_156 k156) (wX13_mayBe_141 (fX13_mayBe_141 (fX13_mayBe_42 k156 k94 n))) (wX13_mayBe_96 (fX13_mayBe_96 (fX13_mayBe_42 k156 k94 n))) (wX13_mayBe_94 k94) [some (.ref 98), some (.int a1), some (.int a2), some (.int a3), some (.int a4), some (.int a5), none, none] [] m = fX13_mayBe_42 k156 k94 (n + 1) a1 a2 a3 a4 a5 m := rfl
theorem bX13_mayBe_42 {C : qCx} {w : qWp} (h : qOk C w RX13 cX13_mayBe 8 2 155 155) (hm : qMt C (some .boolean)) (hx : qNx C) {k156 : Int32 → Int32 → Int32 → Int32 → qM → Option (Int32 × qM)} {k94 : qM → Option (Int32 × qM)} (h156 : qSnd C w 8 155 (qQf C w 155 155 jI) qfin 155 265 (wX13_mayBe_156 k156)) (h94 : qSnd C w 8 155 (qQf C w 155 155 jI) qfin 155 166 (wX13_mayBe_94 k94)) : ∀ n : Nat, qSnd C w 8 155 (qQf C w 155 155 jI) qfin 155 66 (wX13_mayBe_42 (fX13_mayBe_42 k156 k94 n))
  | 0 => qSnd_of0 (fun lo st m x hr0 => by
    unfold wX13_mayBe_42 at hr0
    split at hr0
    · cases hr0
    · cases hr0)
  | n + 1 => by
    have ih := bX13_mayBe_42 h hm hx h156 h94 n
    exact qSnd_of (fun lo st m x hr0 => by
    unfold wX13_mayBe_42 at hr0
    split at hr0
    · exact ⟨_, (qsub_e (qsub_e (qsub_e (qsub_e (qsub_e (qsub_e (qsub_n (qsub_n qsub_nil)))))))), (lX13_mayBe_42 _ _ n _ _ _ _ _ _).trans hr0⟩
    · cases hr0) (sX13_mayBe_42 h hm hx h156 (bX13_mayBe_141 h hm hx ih) (bX13_mayBe_96 h hm hx ih) h94)
noncomputable def tX13_mayBe_156 (j166 : qT (Int32 × qM)) (j156 : qT (Int32 × qM)) : qT (Int32 × qM) :=
  oLi 6 (oLt (j166) (oLa 0 (oLi 4 (oLi 6 (oCi GX13_hasTeacher 3 (oEq (j166) (oInc 5 (1 : Int32) (oInc 6 (-1 : Int32) (j156)))))))))
noncomputable def wX13_mayBe_166 (k : Int32 → Int32 → Int32 → qM → Option (Int32 × qM)) : qT (Int32 × qM) := fun lo st m => match lo, st with
  | [some (.ref 98), _, some (.int a2), _, some (.int a4), some (.int a5), _, _], [] => k a2 a4 a5 m
  | _, _ => none
set_option maxRecDepth 20000 in
theorem sX13_mayBe_156 {C : qCx} {w : qWp} (h : qOk C w RX13 cX13_mayBe 8 2 155 155) (hm : qMt C (some .boolean)) (hx : qNx C) {j166 : qT (Int32 × qM)} {j156 : qT (Int32 × qM)} (k166 : qSnd C w 8 155 (qQf C w 155 155 jI) qfin 155 290 j166) (k156 : qSnd C w 8 155 (qQf C w 155 155 jI) qfin 155 265 j156) : qSnd C w 8 155 (qQf C w 155 155 jI) qfin 155 265 (tX13_mayBe_156 j166 j156) :=
  cLI (pc := 265) h dX13_mayBe_265 (jLt (pc := 267) h dX13_mayBe_267 rfl (k166) (cLa (pc := 270) h dX13_mayBe_270 rfl (cLI (pc := 271) h dX13_mayBe_271 (cLI (pc := 273) h dX13_mayBe_273 (kCi (pc := 275) h (kd_X13_369 h dX13_mayBe_275) spX13_hasTeacher (by decide) (by decide) (by decide) (by decide) (jEq (pc := 278) h dX13_mayBe_278 rfl (k166) (cInc (pc := 281) h dX13_mayBe_281 rfl (cInc (pc := 284) h dX13_mayBe_284 rfl (jGo (pc := 287) h dX13_mayBe_287 rfl (k156))))))))))
set_option maxRecDepth 20000 in
theorem lX13_mayBe_156 (k166 : Int32 → Int32 → Int32 → qM → Option (Int32 × qM)) (n : Nat) (a2 : Int32) (a4 : Int32) (a5 : Int32) (a6 : Int32) (m : qM) : tX13_mayBe_156 (wX13_mayBe_166 k166) (wX13_mayBe_156 ((fX13_mayBe_156 k166 n))) [some (.ref 98), none, some (.int a2), none, some (.int a4), some (.int a5), some (.int a6), none] [] m = fX13_mayBe_156 k166 (n + 1) a2 a4 a5 a6 m := rfl
theorem bX13_mayBe_156 {C : qCx} {w : qWp} (h : qOk C w RX13 cX13_mayBe 8 2 155 155) (hm : qMt C (some .boolean)) (hx : qNx C) {k166 : Int32 → Int32 → Int32 → qM → Option (Int32 × qM)} (h166 : qSnd C w 8 155 (qQf C w 155 155 jI) qfin 155 290 (wX13_mayBe_166 k166)) : ∀ n : Nat, qSnd C w 8 155 (qQf C w 155 155 jI) qfin 155 265 (wX13_mayBe_156 (fX13_mayBe_156 k166 n))
  | 0 => qSnd_of0 (fun lo st m x hr0 => by
    unfold wX13_mayBe_156 at hr0
    split at hr0
    · cases hr0
    · cases hr0)
  | n + 1 => by
    have ih := bX13_mayBe_156 h hm hx h166 n
    exact qSnd_of (fun lo st m x hr0 => by
    unfold wX13_mayBe_156 at hr0
    split at hr0
    · exact ⟨_, (qsub_e (qsub_n (qsub_e (qsub_n (qsub_e (qsub_e (qsub_e (qsub_n qsub_nil)))))))), (lX13_mayBe_156 _ n _ _ _ _ _).trans hr0⟩
    · cases hr0) (sX13_mayBe_156 h hm hx h166 ih)
noncomputable def tX13_mayBe_170 (j181 : qT (Int32 × qM)) (j170 : qT (Int32 × qM)) : qT (Int32 × qM) :=
  oLi 6 (oC (.int (20 : Int32)) (oCGe (j181) (oLa 0 (oLi 4 (oLi 6 (oCi GX13_hasTeacher 3 (oEq (j181) (oInc 5 (1 : Int32) (oInc 6 (1 : Int32) (j170))))))))))
noncomputable def wX13_mayBe_170 (k : Int32 → Int32 → Int32 → qM → Option (Int32 × qM)) : qT (Int32 × qM) := fun lo st m => match lo, st with
  | [some (.ref 98), _, _, _, some (.int a4), some (.int a5), some (.int a6), _], [] => k a4 a5 a6 m
  | _, _ => none
noncomputable def wX13_mayBe_181 (k : Int32 → qM → Option (Int32 × qM)) : qT (Int32 × qM) := fun lo st m => match lo, st with
  | [some (.ref 98), _, _, _, _, some (.int a5), _, _], [] => k a5 m
  | _, _ => none
set_option maxRecDepth 20000 in
theorem sX13_mayBe_170 {C : qCx} {w : qWp} (h : qOk C w RX13 cX13_mayBe 8 2 155 155) (hm : qMt C (some .boolean)) (hx : qNx C) {j181 : qT (Int32 × qM)} {j170 : qT (Int32 × qM)} (k181 : qSnd C w 8 155 (qQf C w 155 155 jI) qfin 155 322 j181) (k170 : qSnd C w 8 155 (qQf C w 155 155 jI) qfin 155 295 j170) : qSnd C w 8 155 (qQf C w 155 155 jI) qfin 155 295 (tX13_mayBe_170 j181 j170) :=
  cLI (pc := 295) h dX13_mayBe_295 (cB (pc := 297) h dX13_mayBe_297 rfl (jCGe (pc := 299) h dX13_mayBe_299 rfl (k181) (cLa (pc := 302) h dX13_mayBe_302 rfl (cLI (pc := 303) h dX13_mayBe_303 (cLI (pc := 305) h dX13_mayBe_305 (kCi (pc := 307) h (kd_X13_369 h dX13_mayBe_307) spX13_hasTeacher (by decide) (by decide) (by decide) (by decide) (jEq (pc := 310) h dX13_mayBe_310 rfl (k181) (cInc (pc := 313) h dX13_mayBe_313 rfl (cInc (pc := 316) h dX13_mayBe_316 rfl (jGo (pc := 319) h dX13_mayBe_319 rfl (k170)))))))))))
set_option maxRecDepth 20000 in
theorem lX13_mayBe_170 (k181 : Int32 → qM → Option (Int32 × qM)) (n : Nat) (a4 : Int32) (a5 : Int32) (a6 : Int32) (m : qM) : tX13_mayBe_170 (wX13_mayBe_181 k181) (wX13_mayBe_170 ((fX13_mayBe_170 k181 n))) [some (.ref 98), none, none, none, some (.int a4), some (.int a5), some (.int a6), none] [] m = fX13_mayBe_170 k181 (n + 1) a4 a5 a6 m := rfl
theorem bX13_mayBe_170 {C : qCx} {w : qWp} (h : qOk C w RX13 cX13_mayBe 8 2 155 155) (hm : qMt C (some .boolean)) (hx : qNx C) {k181 : Int32 → qM → Option (Int32 × qM)} (h181 : qSnd C w 8 155 (qQf C w 155 155 jI) qfin 155 322 (wX13_mayBe_181 k181)) : ∀ n : Nat, qSnd C w 8 155 (qQf C w 155 155 jI) qfin 155 295 (wX13_mayBe_170 (fX13_mayBe_170 k181 n))
  | 0 => qSnd_of0 (fun lo st m x hr0 => by
    unfold wX13_mayBe_170 at hr0
    split at hr0
    · cases hr0
    · cases hr0)
  | n + 1 => by
    have ih := bX13_mayBe_170 h hm hx h181 n
    exact qSnd_of (fun lo st m x hr0 => by
    unfold wX13_mayBe_170 at hr0
    split at hr0
    · exact ⟨_, (qsub_e (qsub_n (qsub_n (qsub_n (qsub_e (qsub_e (qsub_e (qsub_n qsub_nil)))))))), (lX13_mayBe_170 _ n _ _ _ _).trans hr0⟩
    · cases hr0) (sX13_mayBe_170 h hm hx h181 ih)
noncomputable def tX13_mayBe_190 : qT (Int32 × qM) :=
  eZ
noncomputable def wX13_mayBe_190 (k : Int32 → qM → Option (Int32 × qM)) : qT (Int32 × qM) := fun lo st m => match lo, st with
  | [_, _, _, _, _, _, _, _], [.int s0] => k s0 m
  | _, _ => none
set_option maxRecDepth 20000 in
theorem sX13_mayBe_190 {C : qCx} {w : qWp} (h : qOk C w RX13 cX13_mayBe 8 2 155 155) (hm : qMt C (some .boolean)) (hx : qNx C) : qSnd C w 8 155 (qQf C w 155 155 jI) qfin 155 338 (tX13_mayBe_190) :=
  zZ (pc := 338) h hm (Nat.le_refl _) dX13_mayBe_338
set_option maxRecDepth 20000 in
theorem lX13_mayBe_190 (s0 : Int32) (m : qM) : tX13_mayBe_190 [none, none, none, none, none, none, none, none] [(.int s0)] m = fX13_mayBe_190 s0 m := rfl
theorem bX13_mayBe_190 {C : qCx} {w : qWp} (h : qOk C w RX13 cX13_mayBe 8 2 155 155) (hm : qMt C (some .boolean)) (hx : qNx C) : qSnd C w 8 155 (qQf C w 155 155 jI) qfin 155 338 (wX13_mayBe_190 fX13_mayBe_190) :=
  qSnd_of (fun lo st m x hr0 => by
    unfold wX13_mayBe_190 at hr0
    split at hr0
    · exact ⟨_, (qsub_n (qsub_n (qsub_n (qsub_n (qsub_n (qsub_n (qsub_n (qsub_n qsub_nil)))))))), (lX13_mayBe_190 _ _).trans hr0⟩
    · cases hr0) (sX13_mayBe_190 h hm hx)
noncomputable def tX13_mayBe_181 (j190 : qT (Int32 × qM)) : qT (Int32 × qM) :=
  oLi 5 (oLa 0 (oGf 98 0 99 (oC (.int (4 : Int32)) (oAi 99 6 (oCGt (oC (.int (0 : Int32)) (j190)) (oC (.int (1 : Int32)) (j190)))))))
set_option maxRecDepth 20000 in
theorem sX13_mayBe_181 {C : qCx} {w : qWp} (h : qOk C w RX13 cX13_mayBe 8 2 155 155) (hm : qMt C (some .boolean)) (hx : qNx C) {j190 : qT (Int32 × qM)} (k190 : qSnd C w 8 155 (qQf C w 155 155 jI) qfin 155 338 j190) : qSnd C w 8 155 (qQf C w 155 155 jI) qfin 155 322 (tX13_mayBe_181 j190) :=
  cLI (pc := 322) h dX13_mayBe_322 (cLa (pc := 324) h dX13_mayBe_324 rfl (gGf (pc := 325) h dX13_mayBe_325 ff_X13_174_98 (Nat.le_of_ble_eq_true rfl) (Nat.le_of_ble_eq_true rfl) rfl (cC (pc := 328) h dX13_mayBe_328 rfl (rAi (pc := 329) h dX13_mayBe_329 rfl (Nat.le_of_ble_eq_true rfl) (Nat.le_of_ble_eq_true rfl) (jCGt (pc := 330) h dX13_mayBe_330 rfl (cC (pc := 337) h dX13_mayBe_337 rfl (k190)) (cC (pc := 333) h dX13_mayBe_333 rfl (jGo (pc := 334) h dX13_mayBe_334 rfl (k190))))))))
set_option maxRecDepth 20000 in
theorem lX13_mayBe_181 (a5 : Int32) (m : qM) : tX13_mayBe_181 (wX13_mayBe_190 fX13_mayBe_190) [some (.ref 98), none, none, none, none, some (.int a5), none, none] [] m = fX13_mayBe_181 a5 m := rfl
theorem bX13_mayBe_181 {C : qCx} {w : qWp} (h : qOk C w RX13 cX13_mayBe 8 2 155 155) (hm : qMt C (some .boolean)) (hx : qNx C) : qSnd C w 8 155 (qQf C w 155 155 jI) qfin 155 322 (wX13_mayBe_181 fX13_mayBe_181) :=
  qSnd_of (fun lo st m x hr0 => by
    unfold wX13_mayBe_181 at hr0
    split at hr0
    · exact ⟨_, (qsub_e (qsub_n (qsub_n (qsub_n (qsub_n (qsub_e (qsub_n (qsub_n qsub_nil)))))))), (lX13_mayBe_181 _ _).trans hr0⟩
    · cases hr0) (sX13_mayBe_181 h hm hx (bX13_mayBe_190 h hm hx))
noncomputable def tX13_mayBe_166 (j170 : qT (Int32 × qM)) : qT (Int32 × qM) :=
  oLi 2 (oC (.int (1 : Int32)) (o2 (· + ·) (oSi 6 (j170))))
set_option maxRecDepth 20000 in
theorem sX13_mayBe_166 {C : qCx} {w : qWp} (h : qOk C w RX13 cX13_mayBe 8 2 155 155) (hm : qMt C (some .boolean)) (hx : qNx C) {j170 : qT (Int32 × qM)} (k170 : qSnd C w 8 155 (qQf C w 155 155 jI) qfin 155 295 j170) : qSnd C w 8 155 (qQf C w 155 155 jI) qfin 155 290 (tX13_mayBe_166 j170) :=
  cLi (pc := 290) h dX13_mayBe_290 rfl (cC (pc := 291) h dX13_mayBe_291 rfl (aAdd (pc := 292) h dX13_mayBe_292 (cSI (pc := 293) h dX13_mayBe_293 (k170))))
set_option maxRecDepth 20000 in
theorem lX13_mayBe_166 (a2 : Int32) (a4 : Int32) (a5 : Int32) (m : qM) : tX13_mayBe_166 (wX13_mayBe_170 (fX13_mayBe_170 fX13_mayBe_181 FU)) [some (.ref 98), none, some (.int a2), none, some (.int a4), some (.int a5), none, none] [] m = fX13_mayBe_166 a2 a4 a5 m := rfl
theorem bX13_mayBe_166 {C : qCx} {w : qWp} (h : qOk C w RX13 cX13_mayBe 8 2 155 155) (hm : qMt C (some .boolean)) (hx : qNx C) : qSnd C w 8 155 (qQf C w 155 155 jI) qfin 155 290 (wX13_mayBe_166 fX13_mayBe_166) :=
  qSnd_of (fun lo st m x hr0 => by
    unfold wX13_mayBe_166 at hr0
    split at hr0
    · exact ⟨_, (qsub_e (qsub_n (qsub_e (qsub_n (qsub_e (qsub_e (qsub_n (qsub_n qsub_nil)))))))), (lX13_mayBe_166 _ _ _ _).trans hr0⟩
    · cases hr0) (sX13_mayBe_166 h hm hx (bX13_mayBe_170 h hm hx (bX13_mayBe_181 h hm hx) FU))
noncomputable def tX13_mayBe_94 : qT (Int32 × qM) :=
  oC (.int (0 : Int32)) (eZ)
set_option maxRecDepth 20000 in
theorem sX13_mayBe_94 {C : qCx} {w : qWp} (h : qOk C w RX13 cX13_mayBe 8 2 155 155) (hm : qMt C (some .boolean)) (hx : qNx C) : qSnd C w 8 155 (qQf C w 155 155 jI) qfin 155 166 (tX13_mayBe_94) :=
  cC (pc := 166) h dX13_mayBe_166 rfl (zZ (pc := 167) h hm (Nat.le_refl _) dX13_mayBe_167)
set_option maxRecDepth 20000 in
theorem lX13_mayBe_94 (m : qM) : tX13_mayBe_94 [none, none, none, none, none, none, none, none] [] m = fX13_mayBe_94 m := rfl
theorem bX13_mayBe_94 {C : qCx} {w : qWp} (h : qOk C w RX13 cX13_mayBe 8 2 155 155) (hm : qMt C (some .boolean)) (hx : qNx C) : qSnd C w 8 155 (qQf C w 155 155 jI) qfin 155 166 (wX13_mayBe_94 fX13_mayBe_94) :=
  qSnd_of (fun lo st m x hr0 => by
    unfold wX13_mayBe_94 at hr0
    split at hr0
    · exact ⟨_, (qsub_n (qsub_n (qsub_n (qsub_n (qsub_n (qsub_n (qsub_n (qsub_n qsub_nil)))))))), (lX13_mayBe_94 _).trans hr0⟩
    · cases hr0) (sX13_mayBe_94 h hm hx)
noncomputable def tX13_mayBe_0 (j38 : qT (Int32 × qM)) (j42 : qT (Int32 × qM)) : qT (Int32 × qM) :=
  oLa 0 (oGf 98 34 123 (oLi 1 (oAi 123 40 (oSi 3 (oLa 0 (oGf 98 35 124 (oLi 1 (oAi 124 40 (oSi 4 (oLi 2 (oI2l (oLa 0 (oGf 98 23 114 (oLi 4 (oAi 114 10 (oI2l (oLa 0 (oGf 98 24 115 (oLi 4 (oAi 115 10 (oI2l (oCi GX13_in 3 (oEq (j38) (oLi 2 (oI2l (oLa 0 (oGf 98 25 116 (oLi 3 (oAi 116 15 (oI2l (oLa 0 (oGf 98 26 117 (oLi 3 (oAi 117 15 (oI2l (oCi GX13_in 3 (oEq (j38) (oC (.int (0 : Int32)) (oSi 5 (j42))))))))))))))))))))))))))))))))))))))))
set_option maxRecDepth 20000 in
theorem sX13_mayBe_0 {C : qCx} {w : qWp} (h : qOk C w RX13 cX13_mayBe 8 2 155 155) (hm : qMt C (some .boolean)) (hx : qNx C) {j38 : qT (Int32 × qM)} {j42 : qT (Int32 × qM)} (k38 : qSnd C w 8 155 (qQf C w 155 155 jI) qfin 155 61 j38) (k42 : qSnd C w 8 155 (qQf C w 155 155 jI) qfin 155 66 j42) : qSnd C w 8 155 (qQf C w 155 155 jI) qfin 155 0 (tX13_mayBe_0 j38 j42) :=
  cLa (pc := 0) h dX13_mayBe_0 rfl (gGf (pc := 1) h dX13_mayBe_1 ff_X13_215_98 (Nat.le_of_ble_eq_true rfl) (Nat.le_of_ble_eq_true rfl) rfl (cLi (pc := 4) h dX13_mayBe_4 rfl (rAi (pc := 5) h dX13_mayBe_5 rfl (Nat.le_of_ble_eq_true rfl) (Nat.le_of_ble_eq_true rfl) (cSi (pc := 6) h dX13_mayBe_6 rfl (cLa (pc := 7) h dX13_mayBe_7 rfl (gGf (pc := 8) h dX13_mayBe_8 ff_X13_218_98 (Nat.le_of_ble_eq_true rfl) (Nat.le_of_ble_eq_true rfl) rfl (cLi (pc := 11) h dX13_mayBe_11 rfl (rAi (pc := 12) h dX13_mayBe_12 rfl (Nat.le_of_ble_eq_true rfl) (Nat.le_of_ble_eq_true rfl) (cSI (pc := 13) h dX13_mayBe_13 (cLi (pc := 15) h dX13_mayBe_15 rfl (aI2l (pc := 16) h dX13_mayBe_16 (cLa (pc := 17) h dX13_mayBe_17 rfl (gGf (pc := 18) h dX13_mayBe_18 ff_X13_188_98 (Nat.le_of_ble_eq_true rfl) (Nat.le_of_ble_eq_true rfl) rfl (cLI (pc := 21) h dX13_mayBe_21 (rAi (pc := 23) h dX13_mayBe_23 rfl (Nat.le_of_ble_eq_true rfl) (Nat.le_of_ble_eq_true rfl) (aI2l (pc := 24) h dX13_mayBe_24 (cLa (pc := 25) h dX13_mayBe_25 rfl (gGf (pc := 26) h dX13_mayBe_26 ff_X13_191_98 (Nat.le_of_ble_eq_true rfl) (Nat.le_of_ble_eq_true rfl) rfl (cLI (pc := 29) h dX13_mayBe_29 (rAi (pc := 31) h dX13_mayBe_31 rfl (Nat.le_of_ble_eq_true rfl) (Nat.le_of_ble_eq_true rfl) (aI2l (pc := 32) h dX13_mayBe_32 (kCi (pc := 33) h (kd_X13_66 h dX13_mayBe_33) spX13_in (by decide) (by decide) (by decide) (by decide) (jEq (pc := 36) h dX13_mayBe_36 rfl (k38) (cLi (pc := 39) h dX13_mayBe_39 rfl (aI2l (pc := 40) h dX13_mayBe_40 (cLa (pc := 41) h dX13_mayBe_41 rfl (gGf (pc := 42) h dX13_mayBe_42 ff_X13_194_98 (Nat.le_of_ble_eq_true rfl) (Nat.le_of_ble_eq_true rfl) rfl (cLi (pc := 45) h dX13_mayBe_45 rfl (rAi (pc := 46) h dX13_mayBe_46 rfl (Nat.le_of_ble_eq_true rfl) (Nat.le_of_ble_eq_true rfl) (aI2l (pc := 47) h dX13_mayBe_47 (cLa (pc := 48) h dX13_mayBe_48 rfl (gGf (pc := 49) h dX13_mayBe_49 ff_X13_197_98 (Nat.le_of_ble_eq_true rfl) (Nat.le_of_ble_eq_true rfl) rfl (cLi (pc := 52) h dX13_mayBe_52 rfl (rAi (pc := 53) h dX13_mayBe_53 rfl (Nat.le_of_ble_eq_true rfl) (Nat.le_of_ble_eq_true rfl) (aI2l (pc := 54) h dX13_mayBe_54 (kCi (pc := 55) h (kd_X13_66 h dX13_mayBe_55) spX13_in (by decide) (by decide) (by decide) (by decide) (jNe (pc := 58) h dX13_mayBe_58 rfl (cC (pc := 63) h dX13_mayBe_63 rfl (cSI (pc := 64) h dX13_mayBe_64 (k42))) (k38))))))))))))))))))))))))))))))))))))))
set_option maxRecDepth 20000 in
theorem lX13_mayBe_0 (a1 : Int32) (a2 : Int32) (m : qM) : tX13_mayBe_0 (wX13_mayBe_38 fX13_mayBe_38) (wX13_mayBe_42 (fX13_mayBe_42 (fX13_mayBe_156 fX13_mayBe_166 FU) fX13_mayBe_94 FU)) [some (.ref 98), some (.int a1), some (.int a2), none, none, none, none, none] [] m = fX13_mayBe_0 a1 a2 m := rfl
noncomputable def GX13_mayBe : qG Int32 := fun av m => match av with
  | [.ref 98, .int a1, .int a2] => fX13_mayBe a1 a2 m
  | _ => none
theorem spX13_mayBe : qSpI yX13_mayBe (.code yX13_mayBe cX13_mayBe 8 (some .boolean)) 2 qfin 155 155 1 GX13_mayBe := by
  intro av m x m' hG
  unfold GX13_mayBe at hG
  split at hG
  · rename_i a1 a2
    rw [fX13_mayBe_d] at hG
    exact ⟨qmeet (J := jI) (r := (x, m')) (av := [.ref 98, .int a1, .int a2]) (by decide +kernel) (Nat.le_of_ble_eq_true rfl) (fun C w h hm hx hn => sX13_mayBe_0 h hm hx (bX13_mayBe_38 h hm hx) (bX13_mayBe_42 h hm hx (bX13_mayBe_156 h hm hx (bX13_mayBe_166 h hm hx) FU) (bX13_mayBe_94 h hm hx) FU)) ((lX13_mayBe_0 _ _ _).trans hG) (Nat.le_of_ble_eq_true rfl), Or.inl ⟨98, _, 13, _, _, rfl, by decide, rfl, qCk_13, rfl⟩⟩
  · cases hG
theorem im_X13_isAsk : Jvm.Cond.instanceMethod yX13_isAsk ∈ qTw := qm8 (List.mem_of_getElem? (i := 152) (by decide +kernel)) (by decide +kernel)
theorem se_X13_isAsk : Jvm.Cond.selects yX13_isAsk.cls yX13_isAsk yX13_isAsk ∈ qTw := List.mem_filter.mpr ⟨List.mem_append_left _ (List.mem_of_getElem? (i := 53) (by decide +kernel)), rfl⟩
theorem co_X13_isAsk : Jvm.Cond.code yX13_isAsk cX13_isAsk 2 (some .boolean) ∈ qTw := qm8 (List.mem_of_getElem? (i := 153) (by decide +kernel)) (by decide +kernel)
theorem yk_X13_isAsk : qYk yX13_isAsk 1 := ⟨⟨by decide +kernel, by decide +kernel⟩, by decide +kernel⟩
theorem ml_X13_372 : Jvm.Cond.methodLink RX13 372 yX13_isAsk ∈ qTw := qm8 (List.mem_of_getElem? (i := 150) (by decide +kernel)) (by decide +kernel)
theorem kd_X13_372 {C : qCx} {w : qWp} {cc : ByteArray} {nL dp n0 n1 pc : Nat} (h : qOk C w RX13 cc nL dp n0 n1) (d : decode cc pc = .ok (.invokevirtual 372, 3)) : qCallOk C w nL dp n0 n1 pc 2 1 yX13_isAsk (.code yX13_isAsk cX13_isAsk 2 (some .boolean)) := kindV h d ml_X13_372 im_X13_isAsk se_X13_isAsk in_ParentEveModel co_X13_isAsk yk_X13_isAsk (by decide)
theorem im_X13_mayBe : Jvm.Cond.instanceMethod yX13_mayBe ∈ qTw := qm8 (List.mem_of_getElem? (i := 156) (by decide +kernel)) (by decide +kernel)
theorem se_X13_mayBe : Jvm.Cond.selects yX13_mayBe.cls yX13_mayBe yX13_mayBe ∈ qTw := List.mem_filter.mpr ⟨List.mem_append_left _ (List.mem_of_getElem? (i := 54) (by decide +kernel)), rfl⟩
theorem co_X13_mayBe : Jvm.Cond.code yX13_mayBe cX13_mayBe 8 (some .boolean) ∈ qTw := qm8 (List.mem_of_getElem? (i := 157) (by decide +kernel)) (by decide +kernel)
theorem yk_X13_mayBe : qYk yX13_mayBe 2 := ⟨⟨by decide +kernel, by decide +kernel⟩, by decide +kernel⟩
theorem ml_X13_375 : Jvm.Cond.methodLink RX13 375 yX13_mayBe ∈ qTw := qm8 (List.mem_of_getElem? (i := 154) (by decide +kernel)) (by decide +kernel)
theorem kd_X13_375 {C : qCx} {w : qWp} {cc : ByteArray} {nL dp n0 n1 pc : Nat} (h : qOk C w RX13 cc nL dp n0 n1) (d : decode cc pc = .ok (.invokevirtual 375, 3)) : qCallOk C w nL dp n0 n1 pc 3 1 yX13_mayBe (.code yX13_mayBe cX13_mayBe 8 (some .boolean)) := kindV h d ml_X13_375 im_X13_mayBe se_X13_mayBe in_ParentEveModel co_X13_mayBe yk_X13_mayBe (by decide)
theorem dX13_may_0 : decode cX13_may 0 = .ok (.aload_n 0, 1) := by decide +kernel
theorem dX13_may_1 : decode cX13_may 1 = .ok (.iload_n 1, 1) := by decide +kernel
theorem dX13_may_2 : decode cX13_may 2 = .ok (.invokevirtual 372, 3) := by decide +kernel
theorem dX13_may_5 : decode cX13_may 5 = .ok (.ifCond .eq 10, 3) := by decide +kernel
theorem dX13_may_8 : decode cX13_may 8 = .ok (.iload_n 2, 1) := by decide +kernel
theorem dX13_may_9 : decode cX13_may 9 = .ok (.invokestatic 351, 3) := by decide +kernel
theorem dX13_may_12 : decode cX13_may 12 = .ok (.ifCond .ne 6, 3) := by decide +kernel
theorem dX13_may_15 : decode cX13_may 15 = .ok (.bipush (-2), 2) := by decide +kernel
theorem dX13_may_17 : decode cX13_may 17 = .ok (.ireturn, 1) := by decide +kernel
theorem dX13_may_18 : decode cX13_may 18 = .ok (.aload_n 0, 1) := by decide +kernel
theorem dX13_may_19 : decode cX13_may 19 = .ok (.getfield 221, 3) := by decide +kernel
theorem dX13_may_22 : decode cX13_may 22 = .ok (.iload_n 1, 1) := by decide +kernel
theorem dX13_may_23 : decode cX13_may 23 = .ok (.iaload, 1) := by decide +kernel
theorem dX13_may_24 : decode cX13_may 24 = .ok (.iconst (-1), 1) := by decide +kernel
theorem dX13_may_25 : decode cX13_may 25 = .ok (.if_icmp .eq 6, 3) := by decide +kernel
theorem dX13_may_28 : decode cX13_may 28 = .ok (.bipush (-4), 2) := by decide +kernel
theorem dX13_may_30 : decode cX13_may 30 = .ok (.ireturn, 1) := by decide +kernel
theorem dX13_may_31 : decode cX13_may 31 = .ok (.aload_n 0, 1) := by decide +kernel
theorem dX13_may_32 : decode cX13_may 32 = .ok (.iload_n 1, 1) := by decide +kernel
theorem dX13_may_33 : decode cX13_may 33 = .ok (.iload_n 2, 1) := by decide +kernel
theorem dX13_may_34 : decode cX13_may 34 = .ok (.invokevirtual 375, 3) := by decide +kernel
theorem dX13_may_37 : decode cX13_may 37 = .ok (.ifCond .eq 7, 3) := by decide +kernel
theorem dX13_may_40 : decode cX13_may 40 = .ok (.iconst 1, 1) := by decide +kernel
theorem dX13_may_41 : decode cX13_may 41 = .ok (.goto 4, 3) := by decide +kernel
theorem dX13_may_44 : decode cX13_may 44 = .ok (.iconst 0, 1) := by decide +kernel
theorem dX13_may_45 : decode cX13_may 45 = .ok (.ireturn, 1) := by decide +kernel
noncomputable def tX13_may_7 : qT (Int32 × qM) :=
  oC (.int (-2 : Int32)) (eI)
noncomputable def wX13_may_7 (k : qM → Option (Int32 × qM)) : qT (Int32 × qM) := fun lo st m => match lo, st with
  | [_, _, _], [] => k m
  | _, _ => none
set_option maxRecDepth 20000 in
theorem sX13_may_7 {C : qCx} {w : qWp} (h : qOk C w RX13 cX13_may 3 3 155 155) (hm : qMt C (some .int)) (hx : qNx C) : qSnd C w 3 155 (qQf C w 155 155 jI) qfin 155 15 (tX13_may_7) :=
  cB (pc := 15) h dX13_may_15 rfl (zI (pc := 17) h hm (Nat.le_refl _) dX13_may_17)
set_option maxRecDepth 20000 in
theorem lX13_may_7 (m : qM) : tX13_may_7 [none, none, none] [] m = fX13_may_7 m := rfl
theorem bX13_may_7 {C : qCx} {w : qWp} (h : qOk C w RX13 cX13_may 3 3 155 155) (hm : qMt C (some .int)) (hx : qNx C) : qSnd C w 3 155 (qQf C w 155 155 jI) qfin 155 15 (wX13_may_7 fX13_may_7) :=
  qSnd_of (fun lo st m x hr0 => by
    unfold wX13_may_7 at hr0
    split at hr0
    · exact ⟨_, (qsub_n (qsub_n (qsub_n qsub_nil))), (lX13_may_7 _).trans hr0⟩
    · cases hr0) (sX13_may_7 h hm hx)
noncomputable def tX13_may_25 : qT (Int32 × qM) :=
  eI
noncomputable def wX13_may_25 (k : Int32 → qM → Option (Int32 × qM)) : qT (Int32 × qM) := fun lo st m => match lo, st with
  | [_, _, _], [.int s0] => k s0 m
  | _, _ => none
set_option maxRecDepth 20000 in
theorem sX13_may_25 {C : qCx} {w : qWp} (h : qOk C w RX13 cX13_may 3 3 155 155) (hm : qMt C (some .int)) (hx : qNx C) : qSnd C w 3 155 (qQf C w 155 155 jI) qfin 155 45 (tX13_may_25) :=
  zI (pc := 45) h hm (Nat.le_refl _) dX13_may_45
set_option maxRecDepth 20000 in
theorem lX13_may_25 (s0 : Int32) (m : qM) : tX13_may_25 [none, none, none] [(.int s0)] m = fX13_may_25 s0 m := rfl
theorem bX13_may_25 {C : qCx} {w : qWp} (h : qOk C w RX13 cX13_may 3 3 155 155) (hm : qMt C (some .int)) (hx : qNx C) : qSnd C w 3 155 (qQf C w 155 155 jI) qfin 155 45 (wX13_may_25 fX13_may_25) :=
  qSnd_of (fun lo st m x hr0 => by
    unfold wX13_may_25 at hr0
    split at hr0
    · exact ⟨_, (qsub_n (qsub_n (qsub_n qsub_nil))), (lX13_may_25 _ _).trans hr0⟩
    · cases hr0) (sX13_may_25 h hm hx)
noncomputable def tX13_may_0 (j7 : qT (Int32 × qM)) (j25 : qT (Int32 × qM)) : qT (Int32 × qM) :=
  oLa 0 (oLi 1 (oCi GX13_isAsk 2 (oEq (j7) (oLi 2 (oCi GX13_isSlot 1 (oEq (j7) (oLa 0 (oGf 98 36 125 (oLi 1 (oAi 125 40 (oC (.int (-1 : Int32)) (oCEq (oLa 0 (oLi 1 (oLi 2 (oCi GX13_mayBe 3 (oEq (oC (.int (0 : Int32)) (j25)) (oC (.int (1 : Int32)) (j25))))))) (oC (.int (-4 : Int32)) (eI))))))))))))))
set_option maxRecDepth 20000 in
theorem sX13_may_0 {C : qCx} {w : qWp} (h : qOk C w RX13 cX13_may 3 3 155 155) (hm : qMt C (some .int)) (hx : qNx C) {j7 : qT (Int32 × qM)} {j25 : qT (Int32 × qM)} (k7 : qSnd C w 3 155 (qQf C w 155 155 jI) qfin 155 15 j7) (k25 : qSnd C w 3 155 (qQf C w 155 155 jI) qfin 155 45 j25) : qSnd C w 3 155 (qQf C w 155 155 jI) qfin 155 0 (tX13_may_0 j7 j25) :=
  cLa (pc := 0) h dX13_may_0 rfl (cLi (pc := 1) h dX13_may_1 rfl (kCi (pc := 2) h (kd_X13_372 h dX13_may_2) spX13_isAsk (by decide) (by decide) (by decide) (by decide) (jEq (pc := 5) h dX13_may_5 rfl (k7) (cLi (pc := 8) h dX13_may_8 rfl (kCi (pc := 9) h (kd_X13_351 h dX13_may_9) spX13_isSlot (by decide) (by decide) (by decide) (by decide) (jNe (pc := 12) h dX13_may_12 rfl (cLa (pc := 18) h dX13_may_18 rfl (gGf (pc := 19) h dX13_may_19 ff_X13_221_98 (Nat.le_of_ble_eq_true rfl) (Nat.le_of_ble_eq_true rfl) rfl (cLi (pc := 22) h dX13_may_22 rfl (rAi (pc := 23) h dX13_may_23 rfl (Nat.le_of_ble_eq_true rfl) (Nat.le_of_ble_eq_true rfl) (cC (pc := 24) h dX13_may_24 rfl (jCEq (pc := 25) h dX13_may_25 rfl (cLa (pc := 31) h dX13_may_31 rfl (cLi (pc := 32) h dX13_may_32 rfl (cLi (pc := 33) h dX13_may_33 rfl (kCi (pc := 34) h (kd_X13_375 h dX13_may_34) spX13_mayBe (by decide) (by decide) (by decide) (by decide) (jEq (pc := 37) h dX13_may_37 rfl (cC (pc := 44) h dX13_may_44 rfl (k25)) (cC (pc := 40) h dX13_may_40 rfl (jGo (pc := 41) h dX13_may_41 rfl (k25)))))))) (cB (pc := 28) h dX13_may_28 rfl (zI (pc := 30) h hm (Nat.le_refl _) dX13_may_30)))))))) (k7)))))))
set_option maxRecDepth 20000 in
theorem lX13_may_0 (a1 : Int32) (a2 : Int32) (m : qM) : tX13_may_0 (wX13_may_7 fX13_may_7) (wX13_may_25 fX13_may_25) [some (.ref 98), some (.int a1), some (.int a2)] [] m = fX13_may_0 a1 a2 m := rfl
noncomputable def GX13_may : qG Int32 := fun av m => match av with
  | [.ref 98, .int a1, .int a2] => fX13_may a1 a2 m
  | _ => none
theorem spX13_may : qSpI yX13_may (.code yX13_may cX13_may 3 (some .int)) 3 qfin 155 155 1 GX13_may := by
  intro av m x m' hG
  unfold GX13_may at hG
  split at hG
  · rename_i a1 a2
    rw [fX13_may_d] at hG
    exact ⟨qmeet (J := jI) (r := (x, m')) (av := [.ref 98, .int a1, .int a2]) (by decide +kernel) (Nat.le_of_ble_eq_true rfl) (fun C w h hm hx hn => sX13_may_0 h hm hx (bX13_may_7 h hm hx) (bX13_may_25 h hm hx)) ((lX13_may_0 _ _ _).trans hG) (Nat.le_of_ble_eq_true rfl), Or.inl ⟨98, _, 13, _, _, rfl, by decide, rfl, qCk_13, rfl⟩⟩
  · cases hG

