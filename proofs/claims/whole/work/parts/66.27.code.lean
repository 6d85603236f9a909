/-! methods (by program): X1_messagesTo, X2_size, X8_size, X8_byteAt, X2_isNote, X2_takeNote, X2_setLet, X2_mayRead, X2_byteOf, X2_small, X2_isLetter, X2_isWord, X2_isSame, X2_says, X2_search, X2_foundAt, X3_measureWalks -/
theorem im_X9_areAllOfTheirMinutes : Jvm.Cond.instanceMethod yX9_areAllOfTheirMinutes ∈ qTw := qm6 (List.mem_of_getElem? (i := 23) (by decide +kernel)) (by decide +kernel)
theorem se_X9_areAllOfTheirMinutes : Jvm.Cond.selects yX9_areAllOfTheirMinutes.cls yX9_areAllOfTheirMinutes yX9_areAllOfTheirMinutes ∈ qTw := qm6 (List.mem_of_getElem? (i := 24) (by decide +kernel)) (by decide +kernel)
theorem co_X9_areAllOfTheirMinutes : Jvm.Cond.code yX9_areAllOfTheirMinutes cX9_areAllOfTheirMinutes 2 (some .boolean) ∈ qTw := qm6 (List.mem_of_getElem? (i := 25) (by decide +kernel)) (by decide +kernel)
theorem yk_X9_areAllOfTheirMinutes : qYk yX9_areAllOfTheirMinutes 1 := ⟨⟨by decide +kernel, by decide +kernel⟩, by decide +kernel⟩
theorem ml_X1_235 : Jvm.Cond.methodLink RX1 235 yX9_areAllOfTheirMinutes ∈ qTw := qm6 (List.mem_of_getElem? (i := 30) (by decide +kernel)) (by decide +kernel)
theorem kd_X1_235 {C : qCx} {w : qWp} {cc : ByteArray} {nL dp n0 n1 pc : Nat} (h : qOk C w RX1 cc nL dp n0 n1) (d : decode cc pc = .ok (.invokevirtual 235, 3)) : qCallOk C w nL dp n0 n1 pc 2 1 yX9_areAllOfTheirMinutes (.code yX9_areAllOfTheirMinutes cX9_areAllOfTheirMinutes 2 (some .boolean)) := kindV h d ml_X1_235 im_X9_areAllOfTheirMinutes se_X9_areAllOfTheirMinutes in_ParentEve_Tellings co_X9_areAllOfTheirMinutes yk_X9_areAllOfTheirMinutes (by decide)
theorem ml_X1_238 : Jvm.Cond.methodLink RX1 238 yX9_minuteOf ∈ qTw := qm6 (List.mem_of_getElem? (i := 31) (by decide +kernel)) (by decide +kernel)
theorem kd_X1_238 {C : qCx} {w : qWp} {cc : ByteArray} {nL dp n0 n1 pc : Nat} (h : qOk C w RX1 cc nL dp n0 n1) (d : decode cc pc = .ok (.invokevirtual 238, 3)) : qCallOk C w nL dp n0 n1 pc 2 1 yX9_minuteOf (.code yX9_minuteOf cX9_minuteOf 2 (some .int)) := kindV h d ml_X1_238 im_X9_minuteOf se_X9_minuteOf in_ParentEve_Tellings co_X9_minuteOf yk_X9_minuteOf (by decide)
theorem im_X1_isMessage : Jvm.Cond.instanceMethod yX1_isMessage ∈ qTw := qm6 (List.mem_of_getElem? (i := 34) (by decide +kernel)) (by decide +kernel)
theorem se_X1_isMessage : Jvm.Cond.selects yX1_isMessage.cls yX1_isMessage yX1_isMessage ∈ qTw := List.mem_filter.mpr ⟨List.mem_append_left _ (List.mem_of_getElem? (i := 32) (by decide +kernel)), rfl⟩
theorem co_X1_isMessage : Jvm.Cond.code yX1_isMessage cX1_isMessage 7 (some .boolean) ∈ qTw := qm6 (List.mem_of_getElem? (i := 35) (by decide +kernel)) (by decide +kernel)
theorem yk_X1_isMessage : qYk yX1_isMessage 4 := ⟨⟨by decide +kernel, by decide +kernel⟩, by decide +kernel⟩
theorem ml_X1_241 : Jvm.Cond.methodLink RX1 241 yX1_isMessage ∈ qTw := qm6 (List.mem_of_getElem? (i := 32) (by decide +kernel)) (by decide +kernel)
theorem kd_X1_241 {C : qCx} {w : qWp} {cc : ByteArray} {nL dp n0 n1 pc : Nat} (h : qOk C w RX1 cc nL dp n0 n1) (d : decode cc pc = .ok (.invokevirtual 241, 3)) : qCallOk C w nL dp n0 n1 pc 5 1 yX1_isMessage (.code yX1_isMessage cX1_isMessage 7 (some .boolean)) := kindV h d ml_X1_241 im_X1_isMessage se_X1_isMessage in_ParentEve_Evening co_X1_isMessage yk_X1_isMessage (by decide)
theorem dX1_messagesTo_0 : decode cX1_messagesTo 0 = .ok (.iconst 0, 1) := by decide +kernel
theorem dX1_messagesTo_1 : decode cX1_messagesTo 1 = .ok (.istore_n 2, 1) := by decide +kernel
theorem dX1_messagesTo_2 : decode cX1_messagesTo 2 = .ok (.iconst 0, 1) := by decide +kernel
theorem dX1_messagesTo_3 : decode cX1_messagesTo 3 = .ok (.istore_n 3, 1) := by decide +kernel
theorem dX1_messagesTo_4 : decode cX1_messagesTo 4 = .ok (.iconst 1, 1) := by decide +kernel
theorem dX1_messagesTo_5 : decode cX1_messagesTo 5 = .ok (.istore 4, 2) := by decide +kernel
theorem dX1_messagesTo_7 : decode cX1_messagesTo 7 = .ok (.iload 4, 2) := by decide +kernel
theorem dX1_messagesTo_9 : decode cX1_messagesTo 9 = .ok (.aload_n 0, 1) := by decide +kernel
theorem dX1_messagesTo_10 : decode cX1_messagesTo 10 = .ok (.getfield 72, 3) := by decide +kernel
theorem dX1_messagesTo_13 : decode cX1_messagesTo 13 = .ok (.invokevirtual 226, 3) := by decide +kernel
theorem dX1_messagesTo_16 : decode cX1_messagesTo 16 = .ok (.if_icmp .gt 49, 3) := by decide +kernel
theorem dX1_messagesTo_19 : decode cX1_messagesTo 19 = .ok (.aload_n 0, 1) := by decide +kernel
theorem dX1_messagesTo_20 : decode cX1_messagesTo 20 = .ok (.getfield 72, 3) := by decide +kernel
theorem dX1_messagesTo_23 : decode cX1_messagesTo 23 = .ok (.iload 4, 2) := by decide +kernel
theorem dX1_messagesTo_25 : decode cX1_messagesTo 25 = .ok (.invokevirtual 235, 3) := by decide +kernel
theorem dX1_messagesTo_28 : decode cX1_messagesTo 28 = .ok (.ifCond .eq 31, 3) := by decide +kernel
theorem dX1_messagesTo_31 : decode cX1_messagesTo 31 = .ok (.aload_n 0, 1) := by decide +kernel
theorem dX1_messagesTo_32 : decode cX1_messagesTo 32 = .ok (.iload_n 1, 1) := by decide +kernel
theorem dX1_messagesTo_33 : decode cX1_messagesTo 33 = .ok (.aload_n 0, 1) := by decide +kernel
theorem dX1_messagesTo_34 : decode cX1_messagesTo 34 = .ok (.getfield 72, 3) := by decide +kernel
theorem dX1_messagesTo_37 : decode cX1_messagesTo 37 = .ok (.iload 4, 2) := by decide +kernel
theorem dX1_messagesTo_39 : decode cX1_messagesTo 39 = .ok (.iconst 1, 1) := by decide +kernel
theorem dX1_messagesTo_40 : decode cX1_messagesTo 40 = .ok (.isub, 1) := by decide +kernel
theorem dX1_messagesTo_41 : decode cX1_messagesTo 41 = .ok (.invokevirtual 238, 3) := by decide +kernel
theorem dX1_messagesTo_44 : decode cX1_messagesTo 44 = .ok (.iload_n 3, 1) := by decide +kernel
theorem dX1_messagesTo_45 : decode cX1_messagesTo 45 = .ok (.iload 4, 2) := by decide +kernel
theorem dX1_messagesTo_47 : decode cX1_messagesTo 47 = .ok (.invokevirtual 241, 3) := by decide +kernel
theorem dX1_messagesTo_50 : decode cX1_messagesTo 50 = .ok (.ifCond .eq 6, 3) := by decide +kernel
theorem dX1_messagesTo_53 : decode cX1_messagesTo 53 = .ok (.iinc 2 1, 3) := by decide +kernel
theorem dX1_messagesTo_56 : decode cX1_messagesTo 56 = .ok (.iload 4, 2) := by decide +kernel
theorem dX1_messagesTo_58 : decode cX1_messagesTo 58 = .ok (.istore_n 3, 1) := by decide +kernel
theorem dX1_messagesTo_59 : decode cX1_messagesTo 59 = .ok (.iinc 4 1, 3) := by decide +kernel
theorem dX1_messagesTo_62 : decode cX1_messagesTo 62 = .ok (.goto (-55), 3) := by decide +kernel
theorem dX1_messagesTo_65 : decode cX1_messagesTo 65 = .ok (.iload_n 2, 1) := by decide +kernel
theorem dX1_messagesTo_66 : decode cX1_messagesTo 66 = .ok (.ireturn, 1) := by decide +kernel
noncomputable def tX1_messagesTo_31 (j6 : qT (Int32 × qM)) : qT (Int32 × qM) :=
  oInc 4 (1 : Int32) (j6)
noncomputable def wX1_messagesTo_31 (k : Int32 → Int32 → Int32 → Int32 → qM → Option (Int32 × qM)) : qT (Int32 × qM) := fun lo st m => match lo, st with
  | [some (.ref 80), some (.int a1), some (.int a2), some (.int a3), some (.int a4)], [] => k a1 a2 a3 a4 m
  | _, _ => none
noncomputable def wX1_messagesTo_6 (k : Int32 → Int32 → Int32 → Int32 → qM → Option (Int32 × qM)) : qT (Int32 × qM) := fun lo st m => match lo, st with
  | [some (.ref 80), some (.int a1), some (.int a2), some (.int a3), some (.int a4)], [] => k a1 a2 a3 a4 m
  | _, _ => none
set_option maxRecDepth 20000 in
theorem sX1_messagesTo_31 {C : qCx} {w : qWp} (h : qOk C w RX1 cX1_messagesTo 5 4 155 155) (hm : qMt C (some .int)) (hx : qNx C) {j6 : qT (Int32 × qM)} (k6 : qSnd C w 5 155 (qQf C w 155 155 jI) qfin 155 7 j6) : qSnd C w 5 155 (qQf C w 155 155 jI) qfin 155 59 (tX1_messagesTo_31 j6) :=
  cInc (pc := 59) h dX1_messagesTo_59 rfl (jGo (pc := 62) h dX1_messagesTo_62 rfl (k6))
set_option maxRecDepth 20000 in
theorem lX1_messagesTo_31 (k6 : Int32 → Int32 → Int32 → Int32 → qM → Option (Int32 × qM)) (a1 : Int32) (a2 : Int32) (a3 : Int32) (a4 : Int32) (m : qM) : tX1_messagesTo_31 (wX1_messagesTo_6 k6) [some (.ref 80), some (.int a1), some (.int a2), some (.int a3), some (.int a4)] [] m = fX1_messagesTo_31 k6 a1 a2 a3 a4 m := rfl
theorem bX1_messagesTo_31 {C : qCx} {w : qWp} (h : qOk C w RX1 cX1_messagesTo 5 4 155 155) (hm : qMt C (some .int)) (hx : qNx C) {k6 : Int32 → Int32 → Int32 → Int32 → qM → Option (Int32 × qM)} (h6 : qSnd C w 5 155 (qQf C w 155 155 jI) qfin 155 7 (wX1_messagesTo_6 k6)) : qSnd C w 5 155 (qQf C w 155 155 jI) qfin 155 59 (wX1_messagesTo_31 (fX1_messagesTo_31 k6)) :=
  qSnd_of (fun lo st m x hr0 => by
    unfold wX1_messagesTo_31 at hr0
    split at hr0
    · exact ⟨_, (qsub_e (qsub_e (qsub_e (qsub_e (qsub_e qsub_nil))))), (lX1_messagesTo_31 _ _ _ _ _ _).trans hr0⟩
    · cases hr0) (sX1_messagesTo_31 h hm hx h6)
noncomputable def tX1_messagesTo_29 (j31 : qT (Int32 × qM)) : qT (Int32 × qM) :=
  oLi 4 (oSi 3 (j31))
noncomputable def wX1_messagesTo_29 (k : Int32 → Int32 → Int32 → qM → Option (Int32 × qM)) : qT (Int32 × qM) := fun lo st m => match lo, st with
  | [some (.ref 80), some (.int a1), some (.int a2), _, some (.int a4)], [] => k a1 a2 a4 m
  | _, _ => none
set_option maxRecDepth 20000 in
theorem sX1_messagesTo_29 {C : qCx} {w : qWp} (h : qOk C w RX1 cX1_messagesTo 5 4 155 155) (hm : qMt C (some .int)) (hx : qNx C) {j31 : qT (Int32 × qM)} (k31 : qSnd C w 5 155 (qQf C w 155 155 jI) qfin 155 59 j31) : qSnd C w 5 155 (qQf C w 155 155 jI) qfin 155 56 (tX1_messagesTo_29 j31) :=
  cLI (pc := 56) h dX1_messagesTo_56 (cSi (pc := 58) h dX1_messagesTo_58 rfl (k31))
set_option maxRecDepth 20000 in
theorem lX1_messagesTo_29 (k6 : Int32 → Int32 → Int32 → Int32 → qM → Option (Int32 × qM)) (a1 : Int32) (a2 : Int32) (a4 : Int32) (m : qM) : tX1_messagesTo_29 (wX1_messagesTo_31 (fX1_messagesTo_31 k6)) [some (.ref 80), some (.int a1), some (.int a2), none, some (.int a4)] [] m = fX1_messagesTo_29 k6 a1 a2 a4 m := rfl
theorem bX1_messagesTo_29 {C : qCx} {w : qWp} (h : qOk C w RX1 cX1_messagesTo 5 4 155 155) (hm : qMt C (some .int)) (hx : qNx C) {k6 : Int32 → Int32 → Int32 → Int32 → qM → Option (Int32 × qM)} (h6 : qSnd C w 5 155 (qQf C w 155 155 jI) qfin 155 7 (wX1_messagesTo_6 k6)) : qSnd C w 5 155 (qQf C w 155 155 jI) qfin 155 56 (wX1_messagesTo_29 (fX1_messagesTo_29 k6)) :=
  qSnd_of (fun lo st m x hr0 => by
    unfold wX1_messagesTo_29 at hr0
    split at hr0
    · exact ⟨_, (qsub_e (qsub_e (qsub_e (qsub_n (qsub_e qsub_nil))))), (lX1_messagesTo_29 _ _ _ _ _).trans hr0⟩
    · cases hr0) (sX1_messagesTo_29 h hm hx (bX1_messagesTo_31 h hm hx h6))
noncomputable def tX1_messagesTo_6 (j31 : qT (Int32 × qM)) (j29 : qT (Int32 × qM)) : qT (Int32 × qM) :=
  oLi 4 (oLa 0 (oGf 80 4 74 (oCi GX9_size 1 (oCGt (oLi 2 (eI)) (oLa 0 (oGf 80 4 74 (oLi 4 (oCi GX9_areAllOfTheirMinutes 2 (oEq (j31) (oLa 0 (oLi 1 (oLa 0 (oGf 80 4 74 (oLi 4 (oC (.int (1 : Int32)) (o2 (· - ·) (oCi GX9_minuteOf 2 (oLi 3 (oLi 4 (oCi GX1_isMessage 5 (oEq (j29) (oInc 2 (1 : Int32) (j29)))))))))))))))))))))))
set_option maxRecDepth 20000 in
theorem sX1_messagesTo_6 {C : qCx} {w : qWp} (h : qOk C w RX1 cX1_messagesTo 5 4 155 155) (hm : qMt C (some .int)) (hx : qNx C) {j31 : qT (Int32 × qM)} {j29 : qT (Int32 × qM)} (k31 : qSnd C w 5 155 (qQf C w 155 155 jI) qfin 155 59 j31) (k29 : qSnd C w 5 155 (qQf C w 155 155 jI) qfin 155 56 j29) : qSnd C w 5 155 (qQf C w 155 155 jI) qfin 155 7 (tX1_messagesTo_6 j31 j29) :=
  cLI (pc := 7) h dX1_messagesTo_7 (cLa (pc := 9) h dX1_messagesTo_9 rfl (gGf (pc := 10) h dX1_messagesTo_10 ff_X1_72_80 (Nat.le_of_ble_eq_true rfl) (Nat.le_of_ble_eq_true rfl) rfl (kCi (pc := 13) h (kd_X1_226 h dX1_messagesTo_13) spX9_size (by decide) (by decide) (by decide) (by decide) (jCGt (pc := 16) h dX1_messagesTo_16 rfl (cLi (pc := 65) h dX1_messagesTo_65 rfl (zI (pc := 66) h hm (Nat.le_refl _) dX1_messagesTo_66)) (cLa (pc := 19) h dX1_messagesTo_19 rfl (gGf (pc := 20) h dX1_messagesTo_20 ff_X1_72_80 (Nat.le_of_ble_eq_true rfl) (Nat.le_of_ble_eq_true rfl) rfl (cLI (pc := 23) h dX1_messagesTo_23 (kCi (pc := 25) h (kd_X1_235 h dX1_messagesTo_25) spX9_areAllOfTheirMinutes (by decide) (by decide) (by decide) (by decide) (jEq (pc := 28) h dX1_messagesTo_28 rfl (k31) (cLa (pc := 31) h dX1_messagesTo_31 rfl (cLi (pc := 32) h dX1_messagesTo_32 rfl (cLa (pc := 33) h dX1_messagesTo_33 rfl (gGf (pc := 34) h dX1_messagesTo_34 ff_X1_72_80 (Nat.le_of_ble_eq_true rfl) (Nat.le_of_ble_eq_true rfl) rfl (cLI (pc := 37) h dX1_messagesTo_37 (cC (pc := 39) h dX1_messagesTo_39 rfl (aSub (pc := 40) h dX1_messagesTo_40 (kCi (pc := 41) h (kd_X1_238 h dX1_messagesTo_41) spX9_minuteOf (by decide) (by decide) (by decide) (by decide) (cLi (pc := 44) h dX1_messagesTo_44 rfl (cLI (pc := 45) h dX1_messagesTo_45 (kCi (pc := 47) h (kd_X1_241 h dX1_messagesTo_47) spX1_isMessage (by decide) (by decide) (by decide) (by decide) (jEq (pc := 50) h dX1_messagesTo_50 rfl (k29) (cInc (pc := 53) h dX1_messagesTo_53 rfl (k29)))))))))))))))))))))))
set_option maxRecDepth 20000 in
theorem lX1_messagesTo_6 (n : Nat) (a1 : Int32) (a2 : Int32) (a3 : Int32) (a4 : Int32) (m : qM) : tX1_messagesTo_6 (wX1_messagesTo_31 (fX1_messagesTo_31 (fX1_messagesTo_6 n))) (wX1_messagesTo_29 (fX1_messagesTo_29 (fX1_messagesTo_6 n))) [some (.ref 80), some (.int a1), some (.int a2), some (.int a3), some (.int a4)] [] m = fX1_messagesTo_6 (n + 1) a1 a2 a3 a4 m := rfl
theorem bX1_messagesTo_6 {C : qCx} {w : qWp} (h : qOk C w RX1 cX1_messagesTo 5 4 155 155) (hm : qMt C (some .int)) (hx : qNx C) : ∀ n : Nat, qSnd C w 5 155 (qQf C w 155 155 jI) qfin 155 7 (wX1_messagesTo_6 (fX1_messagesTo_6 n))
  | 0 => qSnd_of0 (fun lo st m x hr0 => by
    unfold wX1_messagesTo_6 at hr0
    split at hr0
    · cases hr0
    · cases hr0)
  | n + 1 => by
    have ih := bX1_messagesTo_6 h hm hx n
    exact qSnd_of (fun lo st m x hr0 => by
    unfold wX1_messagesTo_6 at hr0
    split at hr0
    · exact ⟨_, (qsub_e (qsub_e (qsub_e (qsub_e (qsub_e qsub_nil))))), (lX1_messagesTo_6 n _ _ _ _ _).trans hr0⟩
    · cases hr0) (sX1_messagesTo_6 h hm hx (bX1_messagesTo_31 h hm hx ih) (bX1_messagesTo_29 h hm hx ih))
noncomputable def tX1_messagesTo_0 (j6 : qT (Int32 × qM)) : qT (Int32 × qM) :=
  oC (.int (0 : Int32)) (oSi 2 (oC (.int (0 : Int32)) (oSi 3 (oC (.int (1 : Int32)) (oSi 4 (j6))))))
set_option maxRecDepth 20000 in
theorem sX1_messagesTo_0 {C : qCx} {w : qWp} (h : qOk C w RX1 cX1_messagesTo 5 4 155 155) (hm : qMt C (some .int)) (hx : qNx C) {j6 : qT (Int32 × qM)} (k6 : qSnd C w 5 155 (qQf C w 155 155 jI) qfin 155 7 j6) : qSnd C w 5 155 (qQf C w 155 155 jI) qfin 155 0 (tX1_messagesTo_0 j6) :=
  cC (pc := 0) h dX1_messagesTo_0 rfl (cSi (pc := 1) h dX1_messagesTo_1 rfl (cC (pc := 2) h dX1_messagesTo_2 rfl (cSi (pc := 3) h dX1_messagesTo_3 rfl (cC (pc := 4) h dX1_messagesTo_4 rfl (cSI (pc := 5) h dX1_messagesTo_5 (k6))))))
set_option maxRecDepth 20000 in
theorem lX1_messagesTo_0 (a1 : Int32) (m : qM) : tX1_messagesTo_0 (wX1_messagesTo_6 (fX1_messagesTo_6 FU)) [some (.ref 80), some (.int a1), none, none, none] [] m = fX1_messagesTo_0 a1 m := rfl
noncomputable def GX1_messagesTo : qG Int32 := fun av m => match av with
  | [.ref 80, .int a1] => fX1_messagesTo a1 m
  | _ => none
theorem spX1_messagesTo : qSpI yX1_messagesTo (.code yX1_messagesTo cX1_messagesTo 5 (some .int)) 4 qfin 155 155 1 GX1_messagesTo := by
  intro av m x m' hG
  unfold GX1_messagesTo at hG
  split at hG
  · rename_i a1
    rw [fX1_messagesTo_d] at hG
    exact ⟨qmeet (J := jI) (r := (x, m')) (av := [.ref 80, .int a1]) (by decide +kernel) (Nat.le_of_ble_eq_true rfl) (fun C w h hm hx hn => sX1_messagesTo_0 h hm hx (bX1_messagesTo_6 h hm hx FU)) ((lX1_messagesTo_0 _ _).trans hG) (Nat.le_of_ble_eq_true rfl), Or.inl ⟨80, _, 1, _, _, rfl, by decide, rfl, qCk_1, rfl⟩⟩
  · cases hG
theorem dX2_size_0 : decode cX2_size 0 = .ok (.aload_n 0, 1) := by decide +kernel
theorem dX2_size_1 : decode cX2_size 1 = .ok (.getfield 28, 3) := by decide +kernel
theorem dX2_size_4 : decode cX2_size 4 = .ok (.ireturn, 1) := by decide +kernel
noncomputable def tX2_size_0 : qT (Int32 × qM) :=
  oLa 0 (oGi 93 6 (eI))
set_option maxRecDepth 20000 in
theorem sX2_size_0 {C : qCx} {w : qWp} (h : qOk C w RX2 cX2_size 1 0 155 155) (hm : qMt C (some .int)) (hx : qNx C) : qSnd C w 1 155 (qQf C w 155 155 jI) qfin 155 0 (tX2_size_0) :=
  cLa (pc := 0) h dX2_size_0 rfl (gGi (pc := 1) h dX2_size_1 ff_X2_28_93 (Nat.le_of_ble_eq_true rfl) (Nat.le_of_ble_eq_true rfl) (zI (pc := 4) h hm (Nat.le_refl _) dX2_size_4))
set_option maxRecDepth 20000 in
theorem lX2_size_0 (m : qM) : tX2_size_0 [some (.ref 93)] [] m = fX2_size_0 m := rfl
noncomputable def GX2_size : qG Int32 := fun av m => match av with
  | [.ref 93] => fX2_size m
  | _ => none
theorem spX2_size : qSpI yX2_size (.code yX2_size cX2_size 1 (some .int)) 0 qfin 155 155 1 GX2_size := by
  intro av m x m' hG
  unfold GX2_size at hG
  split at hG
  · rw [fX2_size_d] at hG
    exact ⟨qmeet (J := jI) (r := (x, m')) (av := [.ref 93]) (by decide +kernel) (Nat.le_of_ble_eq_true rfl) (fun C w h hm hx hn => sX2_size_0 h hm hx) ((lX2_size_0 _).trans hG) (Nat.le_of_ble_eq_true rfl), Or.inl ⟨93, _, 2, _, _, rfl, by decide, rfl, qCk_2, rfl⟩⟩
  · cases hG
theorem dX8_size_0 : decode cX8_size 0 = .ok (.aload_n 0, 1) := by decide +kernel
theorem dX8_size_1 : decode cX8_size 1 = .ok (.getfield 15, 3) := by decide +kernel
theorem dX8_size_4 : decode cX8_size 4 = .ok (.ireturn, 1) := by decide +kernel
noncomputable def tX8_size_0 : qT (Int32 × qM) :=
  oLa 0 (oGi 1 1 (eI))
set_option maxRecDepth 20000 in
theorem sX8_size_0 {C : qCx} {w : qWp} (h : qOk C w RX8 cX8_size 1 0 155 155) (hm : qMt C (some .int)) (hx : qNx C) : qSnd C w 1 155 (qQf C w 155 155 jI) qfin 155 0 (tX8_size_0) :=
  cLa (pc := 0) h dX8_size_0 rfl (gGi (pc := 1) h dX8_size_1 ff_X8_15_1 (Nat.le_of_ble_eq_true rfl) (Nat.le_of_ble_eq_true rfl) (zI (pc := 4) h hm (Nat.le_refl _) dX8_size_4))
set_option maxRecDepth 20000 in
theorem lX8_size_0 (m : qM) : tX8_size_0 [some (.ref 1)] [] m = fX8_size_0 m := rfl
noncomputable def GX8_size : qG Int32 := fun av m => match av with
  | [.ref 1] => fX8_size m
  | _ => none
theorem spX8_size : qSpI yX8_size (.code yX8_size cX8_size 1 (some .int)) 0 qfin 155 155 1 GX8_size := by
  intro av m x m' hG
  unfold GX8_size at hG
  split at hG
  · rw [fX8_size_d] at hG
    exact ⟨qmeet (J := jI) (r := (x, m')) (av := [.ref 1]) (by decide +kernel) (Nat.le_of_ble_eq_true rfl) (fun C w h hm hx hn => sX8_size_0 h hm hx) ((lX8_size_0 _).trans hG) (Nat.le_of_ble_eq_true rfl), Or.inl ⟨1, _, 8, _, _, rfl, by decide, rfl, qCk_8, rfl⟩⟩
  · cases hG
theorem dX8_byteAt_0 : decode cX8_byteAt 0 = .ok (.iload_n 1, 1) := by decide +kernel
theorem dX8_byteAt_1 : decode cX8_byteAt 1 = .ok (.ifCond .lt 20, 3) := by decide +kernel
theorem dX8_byteAt_4 : decode cX8_byteAt 4 = .ok (.iload_n 1, 1) := by decide +kernel
theorem dX8_byteAt_5 : decode cX8_byteAt 5 = .ok (.aload_n 0, 1) := by decide +kernel
theorem dX8_byteAt_6 : decode cX8_byteAt 6 = .ok (.getfield 15, 3) := by decide +kernel
theorem dX8_byteAt_9 : decode cX8_byteAt 9 = .ok (.if_icmp .ge 12, 3) := by decide +kernel
theorem dX8_byteAt_12 : decode cX8_byteAt 12 = .ok (.aload_n 0, 1) := by decide +kernel
theorem dX8_byteAt_13 : decode cX8_byteAt 13 = .ok (.getfield 9, 3) := by decide +kernel
theorem dX8_byteAt_16 : decode cX8_byteAt 16 = .ok (.iload_n 1, 1) := by decide +kernel
theorem dX8_byteAt_17 : decode cX8_byteAt 17 = .ok (.iaload, 1) := by decide +kernel
theorem dX8_byteAt_18 : decode cX8_byteAt 18 = .ok (.goto 4, 3) := by decide +kernel
theorem dX8_byteAt_21 : decode cX8_byteAt 21 = .ok (.iconst (-1), 1) := by decide +kernel
theorem dX8_byteAt_22 : decode cX8_byteAt 22 = .ok (.ireturn, 1) := by decide +kernel
noncomputable def tX8_byteAt_12 : qT (Int32 × qM) :=
  eI
noncomputable def wX8_byteAt_12 (k : Int32 → qM → Option (Int32 × qM)) : qT (Int32 × qM) := fun lo st m => match lo, st with
  | [_, _], [.int s0] => k s0 m
  | _, _ => none
set_option maxRecDepth 20000 in
theorem sX8_byteAt_12 {C : qCx} {w : qWp} (h : qOk C w RX8 cX8_byteAt 2 0 155 155) (hm : qMt C (some .int)) (hx : qNx C) : qSnd C w 2 155 (qQf C w 155 155 jI) qfin 155 22 (tX8_byteAt_12) :=
  zI (pc := 22) h hm (Nat.le_refl _) dX8_byteAt_22
set_option maxRecDepth 20000 in
theorem lX8_byteAt_12 (s0 : Int32) (m : qM) : tX8_byteAt_12 [none, none] [(.int s0)] m = fX8_byteAt_12 s0 m := rfl
theorem bX8_byteAt_12 {C : qCx} {w : qWp} (h : qOk C w RX8 cX8_byteAt 2 0 155 155) (hm : qMt C (some .int)) (hx : qNx C) : qSnd C w 2 155 (qQf C w 155 155 jI) qfin 155 22 (wX8_byteAt_12 fX8_byteAt_12) :=
  qSnd_of (fun lo st m x hr0 => by
    unfold wX8_byteAt_12 at hr0
    split at hr0
    · exact ⟨_, (qsub_n (qsub_n qsub_nil)), (lX8_byteAt_12 _ _).trans hr0⟩
    · cases hr0) (sX8_byteAt_12 h hm hx)
noncomputable def tX8_byteAt_11 (j12 : qT (Int32 × qM)) : qT (Int32 × qM) :=
  oC (.int (-1 : Int32)) (j12)
noncomputable def wX8_byteAt_11 (k : qM → Option (Int32 × qM)) : qT (Int32 × qM) := fun lo st m => match lo, st with
  | [_, _], [] => k m
  | _, _ => none
set_option maxRecDepth 20000 in
theorem sX8_byteAt_11 {C : qCx} {w : qWp} (h : qOk C w RX8 cX8_byteAt 2 0 155 155) (hm : qMt C (some .int)) (hx : qNx C) {j12 : qT (Int32 × qM)} (k12 : qSnd C w 2 155 (qQf C w 155 155 jI) qfin 155 22 j12) : qSnd C w 2 155 (qQf C w 155 155 jI) qfin 155 21 (tX8_byteAt_11 j12) :=
  cC (pc := 21) h dX8_byteAt_21 rfl (k12)
set_option maxRecDepth 20000 in
theorem lX8_byteAt_11 (m : qM) : tX8_byteAt_11 (wX8_byteAt_12 fX8_byteAt_12) [none, none] [] m = fX8_byteAt_11 m := rfl
theorem bX8_byteAt_11 {C : qCx} {w : qWp} (h : qOk C w RX8 cX8_byteAt 2 0 155 155) (hm : qMt C (some .int)) (hx : qNx C) : qSnd C w 2 155 (qQf C w 155 155 jI) qfin 155 21 (wX8_byteAt_11 fX8_byteAt_11) :=
  qSnd_of (fun lo st m x hr0 => by
    unfold wX8_byteAt_11 at hr0
    split at hr0
    · exact ⟨_, (qsub_n (qsub_n qsub_nil)), (lX8_byteAt_11 _).trans hr0⟩
    · cases hr0) (sX8_byteAt_11 h hm hx (bX8_byteAt_12 h hm hx))
noncomputable def tX8_byteAt_0 (j11 : qT (Int32 × qM)) (j12 : qT (Int32 × qM)) : qT (Int32 × qM) :=
  oLi 1 (oLt (j11) (oLi 1 (oLa 0 (oGi 1 1 (oCGe (j11) (oLa 0 (oGf 1 0 2 (oLi 1 (oAi 2 400 (j12))))))))))
set_option maxRecDepth 20000 in
theorem sX8_byteAt_0 {C : qCx} {w : qWp} (h : qOk C w RX8 cX8_byteAt 2 0 155 155) (hm : qMt C (some .int)) (hx : qNx C) {j11 : qT (Int32 × qM)} {j12 : qT (Int32 × qM)} (k11 : qSnd C w 2 155 (qQf C w 155 155 jI) qfin 155 21 j11) (k12 : qSnd C w 2 155 (qQf C w 155 155 jI) qfin 155 22 j12) : qSnd C w 2 155 (qQf C w 155 155 jI) qfin 155 0 (tX8_byteAt_0 j11 j12) :=
  cLi (pc := 0) h dX8_byteAt_0 rfl (jLt (pc := 1) h dX8_byteAt_1 rfl (k11) (cLi (pc := 4) h dX8_byteAt_4 rfl (cLa (pc := 5) h dX8_byteAt_5 rfl (gGi (pc := 6) h dX8_byteAt_6 ff_X8_15_1 (Nat.le_of_ble_eq_true rfl) (Nat.le_of_ble_eq_true rfl) (jCGe (pc := 9) h dX8_byteAt_9 rfl (k11) (cLa (pc := 12) h dX8_byteAt_12 rfl (gGf (pc := 13) h dX8_byteAt_13 ff_X8_9_1 (Nat.le_of_ble_eq_true rfl) (Nat.le_of_ble_eq_true rfl) rfl (cLi (pc := 16) h dX8_byteAt_16 rfl (rAi (pc := 17) h dX8_byteAt_17 rfl (Nat.le_of_ble_eq_true rfl) (Nat.le_of_ble_eq_true rfl) (jGo (pc := 18) h dX8_byteAt_18 rfl (k12)))))))))))
set_option maxRecDepth 20000 in
theorem lX8_byteAt_0 (a1 : Int32) (m : qM) : tX8_byteAt_0 (wX8_byteAt_11 fX8_byteAt_11) (wX8_byteAt_12 fX8_byteAt_12) [some (.ref 1), some (.int a1)] [] m = fX8_byteAt_0 a1 m := rfl
noncomputable def GX8_byteAt : qG Int32 := fun av m => match av with
  | [.ref 1, .int a1] => fX8_byteAt a1 m
  | _ => none
theorem spX8_byteAt : qSpI yX8_byteAt (.code yX8_byteAt cX8_byteAt 2 (some .int)) 0 qfin 155 155 1 GX8_byteAt := by
  intro av m x m' hG
  unfold GX8_byteAt at hG
  split at hG
  · rename_i a1
    rw [fX8_byteAt_d] at hG
    exact ⟨qmeet (J := jI) (r := (x, m')) (av := [.ref 1, .int a1]) (by decide +kernel) (Nat.le_of_ble_eq_true rfl) (fun C w h hm hx hn => sX8_byteAt_0 h hm hx (bX8_byteAt_11 h hm hx) (bX8_byteAt_12 h hm hx)) ((lX8_byteAt_0 _ _).trans hG) (Nat.le_of_ble_eq_true rfl), Or.inl ⟨1, _, 8, _, _, rfl, by decide, rfl, qCk_8, rfl⟩⟩
  · cases hG
theorem im_X8_size : Jvm.Cond.instanceMethod yX8_size ∈ qTw := qm2 (List.mem_of_getElem? (i := 203) (by decide +kernel)) (by decide +kernel)
theorem se_X8_size : Jvm.Cond.selects yX8_size.cls yX8_size yX8_size ∈ qTw := qm2 (List.mem_of_getElem? (i := 204) (by decide +kernel)) (by decide +kernel)
theorem co_X8_size : Jvm.Cond.code yX8_size cX8_size 1 (some .int) ∈ qTw := qm2 (List.mem_of_getElem? (i := 205) (by decide +kernel)) (by decide +kernel)
theorem yk_X8_size : qYk yX8_size 0 := ⟨⟨by decide +kernel, by decide +kernel⟩, by decide +kernel⟩
theorem ml_X2_43 : Jvm.Cond.methodLink RX2 43 yX8_size ∈ qTw := qm6 (List.mem_of_getElem? (i := 67) (by decide +kernel)) (by decide +kernel)
theorem kd_X2_43 {C : qCx} {w : qWp} {cc : ByteArray} {nL dp n0 n1 pc : Nat} (h : qOk C w RX2 cc nL dp n0 n1) (d : decode cc pc = .ok (.invokevirtual 43, 3)) : qCallOk C w nL dp n0 n1 pc 1 1 yX8_size (.code yX8_size cX8_size 1 (some .int)) := kindV h d ml_X2_43 im_X8_size se_X8_size in_ParentEve_Tape co_X8_size yk_X8_size (by decide)
theorem ml_X2_39 : Jvm.Cond.methodLinkNest RX2 39 yX11_within "ParentEve" ∈ qTw := qm6 (List.mem_of_getElem? (i := 68) (by decide +kernel)) (by decide +kernel)
theorem kd_X2_39 {C : qCx} {w : qWp} {cc : ByteArray} {nL dp n0 n1 pc : Nat} (h : qOk C w RX2 cc nL dp n0 n1) (d : decode cc pc = .ok (.invokestatic 39, 3)) : qCallOk C w nL dp n0 n1 pc 3 0 yX11_within (.code yX11_within cX11_within 3 (some .boolean)) := kindSN h d ml_X2_39 im_X11_within in_ParentEve co_X11_within yk_X11_within (by decide)
theorem im_X8_byteAt : Jvm.Cond.instanceMethod yX8_byteAt ∈ qTw := qm3 (List.mem_of_getElem? (i := 13) (by decide +kernel)) (by decide +kernel)
theorem se_X8_byteAt : Jvm.Cond.selects yX8_byteAt.cls yX8_byteAt yX8_byteAt ∈ qTw := qm3 (List.mem_of_getElem? (i := 14) (by decide +kernel)) (by decide +kernel)
theorem co_X8_byteAt : Jvm.Cond.code yX8_byteAt cX8_byteAt 2 (some .int) ∈ qTw := qm3 (List.mem_of_getElem? (i := 15) (by decide +kernel)) (by decide +kernel)
theorem yk_X8_byteAt : qYk yX8_byteAt 1 := ⟨⟨by decide +kernel, by decide +kernel⟩, by decide +kernel⟩
theorem ml_X2_48 : Jvm.Cond.methodLink RX2 48 yX8_byteAt ∈ qTw := qm6 (List.mem_of_getElem? (i := 69) (by decide +kernel)) (by decide +kernel)
theorem kd_X2_48 {C : qCx} {w : qWp} {cc : ByteArray} {nL dp n0 n1 pc : Nat} (h : qOk C w RX2 cc nL dp n0 n1) (d : decode cc pc = .ok (.invokevirtual 48, 3)) : qCallOk C w nL dp n0 n1 pc 2 1 yX8_byteAt (.code yX8_byteAt cX8_byteAt 2 (some .int)) := kindV h d ml_X2_48 im_X8_byteAt se_X8_byteAt in_ParentEve_Tape co_X8_byteAt yk_X8_byteAt (by decide)
theorem dX2_isNote_0 : decode cX2_isNote 0 = .ok (.aload_n 0, 1) := by decide +kernel
theorem dX2_isNote_1 : decode cX2_isNote 1 = .ok (.invokevirtual 43, 3) := by decide +kernel
theorem dX2_isNote_4 : decode cX2_isNote 4 = .ok (.iconst 1, 1) := by decide +kernel
theorem dX2_isNote_5 : decode cX2_isNote 5 = .ok (.bipush 60, 2) := by decide +kernel
theorem dX2_isNote_7 : decode cX2_isNote 7 = .ok (.invokestatic 39, 3) := by decide +kernel
theorem dX2_isNote_10 : decode cX2_isNote 10 = .ok (.ifCond .ne 5, 3) := by decide +kernel
theorem dX2_isNote_13 : decode cX2_isNote 13 = .ok (.iconst 0, 1) := by decide +kernel
theorem dX2_isNote_14 : decode cX2_isNote 14 = .ok (.ireturn, 1) := by decide +kernel
theorem dX2_isNote_15 : decode cX2_isNote 15 = .ok (.iconst 0, 1) := by decide +kernel
theorem dX2_isNote_16 : decode cX2_isNote 16 = .ok (.istore_n 1, 1) := by decide +kernel
theorem dX2_isNote_17 : decode cX2_isNote 17 = .ok (.iload_n 1, 1) := by decide +kernel
theorem dX2_isNote_18 : decode cX2_isNote 18 = .ok (.aload_n 0, 1) := by decide +kernel
theorem dX2_isNote_19 : decode cX2_isNote 19 = .ok (.invokevirtual 43, 3) := by decide +kernel
theorem dX2_isNote_22 : decode cX2_isNote 22 = .ok (.if_icmp .ge 26, 3) := by decide +kernel
theorem dX2_isNote_25 : decode cX2_isNote 25 = .ok (.aload_n 0, 1) := by decide +kernel
theorem dX2_isNote_26 : decode cX2_isNote 26 = .ok (.iload_n 1, 1) := by decide +kernel
theorem dX2_isNote_27 : decode cX2_isNote 27 = .ok (.invokevirtual 48, 3) := by decide +kernel
theorem dX2_isNote_30 : decode cX2_isNote 30 = .ok (.bipush 32, 2) := by decide +kernel
theorem dX2_isNote_32 : decode cX2_isNote 32 = .ok (.bipush 126, 2) := by decide +kernel
theorem dX2_isNote_34 : decode cX2_isNote 34 = .ok (.invokestatic 39, 3) := by decide +kernel
theorem dX2_isNote_37 : decode cX2_isNote 37 = .ok (.ifCond .ne 5, 3) := by decide +kernel
theorem dX2_isNote_40 : decode cX2_isNote 40 = .ok (.iconst 0, 1) := by decide +kernel
theorem dX2_isNote_41 : decode cX2_isNote 41 = .ok (.ireturn, 1) := by decide +kernel
theorem dX2_isNote_42 : decode cX2_isNote 42 = .ok (.iinc 1 1, 3) := by decide +kernel
theorem dX2_isNote_45 : decode cX2_isNote 45 = .ok (.goto (-28), 3) := by decide +kernel
theorem dX2_isNote_48 : decode cX2_isNote 48 = .ok (.iconst 1, 1) := by decide +kernel
theorem dX2_isNote_49 : decode cX2_isNote 49 = .ok (.ireturn, 1) := by decide +kernel
noncomputable def tX2_isNote_10 (j10 : qT (Int32 × qM)) : qT (Int32 × qM) :=
  oLi 1 (oLa 0 (oCi GX8_size 1 (oCGe (oC (.int (1 : Int32)) (eZ)) (oLa 0 (oLi 1 (oCi GX8_byteAt 2 (oC (.int (32 : Int32)) (oC (.int (126 : Int32)) (oCi GX11_within 3 (oEq (oC (.int (0 : Int32)) (eZ)) (oInc 1 (1 : Int32) (j10))))))))))))
noncomputable def wX2_isNote_10 (k : Int32 → qM → Option (Int32 × qM)) : qT (Int32 × qM) := fun lo st m => match lo, st with
  | [some (.ref 1), some (.int a1)], [] => k a1 m
  | _, _ => none
set_option maxRecDepth 20000 in
theorem sX2_isNote_10 {C : qCx} {w : qWp} (h : qOk C w RX2 cX2_isNote 2 1 155 155) (hm : qMt C (some .boolean)) (hx : qNx C) {j10 : qT (Int32 × qM)} (k10 : qSnd C w 2 155 (qQf C w 155 155 jI) qfin 155 17 j10) : qSnd C w 2 155 (qQf C w 155 155 jI) qfin 155 17 (tX2_isNote_10 j10) :=
  cLi (pc := 17) h dX2_isNote_17 rfl (cLa (pc := 18) h dX2_isNote_18 rfl (kCi (pc := 19) h (kd_X2_43 h dX2_isNote_19) spX8_size (by decide) (by decide) (by decide) (by decide) (jCGe (pc := 22) h dX2_isNote_22 rfl (cC (pc := 48) h dX2_isNote_48 rfl (zZ (pc := 49) h hm (Nat.le_refl _) dX2_isNote_49)) (cLa (pc := 25) h dX2_isNote_25 rfl (cLi (pc := 26) h dX2_isNote_26 rfl (kCi (pc := 27) h (kd_X2_48 h dX2_isNote_27) spX8_byteAt (by decide) (by decide) (by decide) (by decide) (cB (pc := 30) h dX2_isNote_30 rfl (cB (pc := 32) h dX2_isNote_32 rfl (kCi (pc := 34) h (kd_X2_39 h dX2_isNote_34) spX11_within (by decide) (by decide) (by decide) (by decide) (jNe (pc := 37) h dX2_isNote_37 rfl (cInc (pc := 42) h dX2_isNote_42 rfl (jGo (pc := 45) h dX2_isNote_45 rfl (k10))) (cC (pc := 40) h dX2_isNote_40 rfl (zZ (pc := 41) h hm (Nat.le_refl _) dX2_isNote_41))))))))))))
set_option maxRecDepth 20000 in
theorem lX2_isNote_10 (n : Nat) (a1 : Int32) (m : qM) : tX2_isNote_10 (wX2_isNote_10 ((fX2_isNote_10 n))) [some (.ref 1), some (.int a1)] [] m = fX2_isNote_10 (n + 1) a1 m := rfl
theorem bX2_isNote_10 {C : qCx} {w : qWp} (h : qOk C w RX2 cX2_isNote 2 1 155 155) (hm : qMt C (some .boolean)) (hx : qNx C) : ∀ n : Nat, qSnd C w 2 155 (qQf C w 155 155 jI) qfin 155 17 (wX2_isNote_10 (fX2_isNote_10 n))
  | 0 => qSnd_of0 (fun lo st m x hr0 => by
    unfold wX2_isNote_10 at hr0
    split at hr0
    · cases hr0
    · cases hr0)
  | n + 1 => by
    have ih := bX2_isNote_10 h hm hx n
    exact qSnd_of (fun lo st m x hr0 => by
    unfold wX2_isNote_10 at hr0
    split at hr0
    · exact ⟨_, (qsub_e (qsub_e qsub_nil)), (lX2_isNote_10 n _ _).trans hr0⟩
    · cases hr0) (sX2_isNote_10 h hm hx ih)
noncomputable def tX2_isNote_0 (j10 : qT (Int32 × qM)) : qT (Int32 × qM) :=
  oLa 0 (oCi GX8_size 1 (oC (.int (1 : Int32)) (oC (.int (60 : Int32)) (oCi GX11_within 3 (oEq (oC (.int (0 : Int32)) (eZ)) (oC (.int (0 : Int32)) (oSi 1 (j10))))))))
set_option maxRecDepth 20000 in
theorem sX2_isNote_0 {C : qCx} {w : qWp} (h : qOk C w RX2 cX2_isNote 2 1 155 155) (hm : qMt C (some .boolean)) (hx : qNx C) {j10 : qT (Int32 × qM)} (k10 : qSnd C w 2 155 (qQf C w 155 155 jI) qfin 155 17 j10) : qSnd C w 2 155 (qQf C w 155 155 jI) qfin 155 0 (tX2_isNote_0 j10) :=
  cLa (pc := 0) h dX2_isNote_0 rfl (kCi (pc := 1) h (kd_X2_43 h dX2_isNote_1) spX8_size (by decide) (by decide) (by decide) (by decide) (cC (pc := 4) h dX2_isNote_4 rfl (cB (pc := 5) h dX2_isNote_5 rfl (kCi (pc := 7) h (kd_X2_39 h dX2_isNote_7) spX11_within (by decide) (by decide) (by decide) (by decide) (jNe (pc := 10) h dX2_isNote_10 rfl (cC (pc := 15) h dX2_isNote_15 rfl (cSi (pc := 16) h dX2_isNote_16 rfl (k10))) (cC (pc := 13) h dX2_isNote_13 rfl (zZ (pc := 14) h hm (Nat.le_refl _) dX2_isNote_14)))))))
set_option maxRecDepth 20000 in
theorem lX2_isNote_0 (m : qM) : tX2_isNote_0 (wX2_isNote_10 (fX2_isNote_10 FU)) [some (.ref 1), none] [] m = fX2_isNote_0 m := rfl
noncomputable def GX2_isNote : qG Int32 := fun av m => match av with
  | [.ref 1] => fX2_isNote m
  | _ => none
theorem spX2_isNote : qSpI yX2_isNote (.code yX2_isNote cX2_isNote 2 (some .boolean)) 1 qfin 155 155 0 GX2_isNote := by
  intro av m x m' hG
  unfold GX2_isNote at hG
  split at hG
  · rw [fX2_isNote_d] at hG
    exact ⟨qmeet (J := jI) (r := (x, m')) (av := [.ref 1]) (by decide +kernel) (Nat.le_of_ble_eq_true rfl) (fun C w h hm hx hn => sX2_isNote_0 h hm hx (bX2_isNote_10 h hm hx FU)) ((lX2_isNote_0 _).trans hG) (Nat.le_of_ble_eq_true rfl), trivial⟩
  · cases hG
theorem im_X2_isNote : Jvm.Cond.static yX2_isNote ∈ qTw := qm6 (List.mem_of_getElem? (i := 65) (by decide +kernel)) (by decide +kernel)
theorem co_X2_isNote : Jvm.Cond.code yX2_isNote cX2_isNote 2 (some .boolean) ∈ qTw := qm6 (List.mem_of_getElem? (i := 66) (by decide +kernel)) (by decide +kernel)
theorem yk_X2_isNote : qYk yX2_isNote 1 := ⟨⟨by decide +kernel, by decide +kernel⟩, by decide +kernel⟩
theorem ml_X2_35 : Jvm.Cond.methodLink RX2 35 yX2_isNote ∈ qTw := qm6 (List.mem_of_getElem? (i := 64) (by decide +kernel)) (by decide +kernel)
theorem kd_X2_35 {C : qCx} {w : qWp} {cc : ByteArray} {nL dp n0 n1 pc : Nat} (h : qOk C w RX2 cc nL dp n0 n1) (d : decode cc pc = .ok (.invokestatic 35, 3)) : qCallOk C w nL dp n0 n1 pc 1 0 yX2_isNote (.code yX2_isNote cX2_isNote 2 (some .boolean)) := kindS h d ml_X2_35 im_X2_isNote in_ParentEve_Notes co_X2_isNote yk_X2_isNote (by decide)
theorem dX2_takeNote_0 : decode cX2_takeNote 0 = .ok (.aload_n 2, 1) := by decide +kernel
theorem dX2_takeNote_1 : decode cX2_takeNote 1 = .ok (.invokestatic 35, 3) := by decide +kernel
theorem dX2_takeNote_4 : decode cX2_takeNote 4 = .ok (.ifCond .eq 13, 3) := by decide +kernel
theorem dX2_takeNote_7 : decode cX2_takeNote 7 = .ok (.iload_n 1, 1) := by decide +kernel
theorem dX2_takeNote_8 : decode cX2_takeNote 8 = .ok (.iconst 0, 1) := by decide +kernel
theorem dX2_takeNote_9 : decode cX2_takeNote 9 = .ok (.bipush 39, 2) := by decide +kernel
theorem dX2_takeNote_11 : decode cX2_takeNote 11 = .ok (.invokestatic 39, 3) := by decide +kernel
theorem dX2_takeNote_14 : decode cX2_takeNote 14 = .ok (.ifCond .ne 5, 3) := by decide +kernel
theorem dX2_takeNote_17 : decode cX2_takeNote 17 = .ok (.iconst (-1), 1) := by decide +kernel
theorem dX2_takeNote_18 : decode cX2_takeNote 18 = .ok (.ireturn, 1) := by decide +kernel
theorem dX2_takeNote_19 : decode cX2_takeNote 19 = .ok (.aload_n 0, 1) := by decide +kernel
theorem dX2_takeNote_20 : decode cX2_takeNote 20 = .ok (.getfield 15, 3) := by decide +kernel
theorem dX2_takeNote_23 : decode cX2_takeNote 23 = .ok (.iload_n 1, 1) := by decide +kernel
theorem dX2_takeNote_24 : decode cX2_takeNote 24 = .ok (.iaload, 1) := by decide +kernel
theorem dX2_takeNote_25 : decode cX2_takeNote 25 = .ok (.ifCond .ne 13, 3) := by decide +kernel
theorem dX2_takeNote_28 : decode cX2_takeNote 28 = .ok (.aload_n 0, 1) := by decide +kernel
theorem dX2_takeNote_29 : decode cX2_takeNote 29 = .ok (.dup, 1) := by decide +kernel
theorem dX2_takeNote_30 : decode cX2_takeNote 30 = .ok (.getfield 28, 3) := by decide +kernel
theorem dX2_takeNote_33 : decode cX2_takeNote 33 = .ok (.iconst 1, 1) := by decide +kernel
theorem dX2_takeNote_34 : decode cX2_takeNote 34 = .ok (.iadd, 1) := by decide +kernel
theorem dX2_takeNote_35 : decode cX2_takeNote 35 = .ok (.putfield 28, 3) := by decide +kernel
theorem dX2_takeNote_38 : decode cX2_takeNote 38 = .ok (.iconst 0, 1) := by decide +kernel
theorem dX2_takeNote_39 : decode cX2_takeNote 39 = .ok (.istore_n 3, 1) := by decide +kernel
theorem dX2_takeNote_40 : decode cX2_takeNote 40 = .ok (.iload_n 3, 1) := by decide +kernel
theorem dX2_takeNote_41 : decode cX2_takeNote 41 = .ok (.aload_n 2, 1) := by decide +kernel
theorem dX2_takeNote_42 : decode cX2_takeNote 42 = .ok (.invokevirtual 43, 3) := by decide +kernel
theorem dX2_takeNote_45 : decode cX2_takeNote 45 = .ok (.if_icmp .ge 31, 3) := by decide +kernel
theorem dX2_takeNote_48 : decode cX2_takeNote 48 = .ok (.iload_n 3, 1) := by decide +kernel
theorem dX2_takeNote_49 : decode cX2_takeNote 49 = .ok (.bipush 60, 2) := by decide +kernel
theorem dX2_takeNote_51 : decode cX2_takeNote 51 = .ok (.if_icmp .ge 25, 3) := by decide +kernel
theorem dX2_takeNote_54 : decode cX2_takeNote 54 = .ok (.aload_n 0, 1) := by decide +kernel
theorem dX2_takeNote_55 : decode cX2_takeNote 55 = .ok (.getfield 9, 3) := by decide +kernel
theorem dX2_takeNote_58 : decode cX2_takeNote 58 = .ok (.iload_n 1, 1) := by decide +kernel
theorem dX2_takeNote_59 : decode cX2_takeNote 59 = .ok (.bipush 60, 2) := by decide +kernel
theorem dX2_takeNote_61 : decode cX2_takeNote 61 = .ok (.imul, 1) := by decide +kernel
theorem dX2_takeNote_62 : decode cX2_takeNote 62 = .ok (.iload_n 3, 1) := by decide +kernel
theorem dX2_takeNote_63 : decode cX2_takeNote 63 = .ok (.iadd, 1) := by decide +kernel
theorem dX2_takeNote_64 : decode cX2_takeNote 64 = .ok (.aload_n 2, 1) := by decide +kernel
theorem dX2_takeNote_65 : decode cX2_takeNote 65 = .ok (.iload_n 3, 1) := by decide +kernel
theorem dX2_takeNote_66 : decode cX2_takeNote 66 = .ok (.invokevirtual 48, 3) := by decide +kernel
theorem dX2_takeNote_69 : decode cX2_takeNote 69 = .ok (.iastore, 1) := by decide +kernel
theorem dX2_takeNote_70 : decode cX2_takeNote 70 = .ok (.iinc 3 1, 3) := by decide +kernel
theorem dX2_takeNote_73 : decode cX2_takeNote 73 = .ok (.goto (-33), 3) := by decide +kernel
theorem dX2_takeNote_76 : decode cX2_takeNote 76 = .ok (.aload_n 0, 1) := by decide +kernel
theorem dX2_takeNote_77 : decode cX2_takeNote 77 = .ok (.getfield 15, 3) := by decide +kernel
theorem dX2_takeNote_80 : decode cX2_takeNote 80 = .ok (.iload_n 1, 1) := by decide +kernel
theorem dX2_takeNote_81 : decode cX2_takeNote 81 = .ok (.aload_n 2, 1) := by decide +kernel
theorem dX2_takeNote_82 : decode cX2_takeNote 82 = .ok (.invokevirtual 43, 3) := by decide +kernel
theorem dX2_takeNote_85 : decode cX2_takeNote 85 = .ok (.iastore, 1) := by decide +kernel
theorem dX2_takeNote_86 : decode cX2_takeNote 86 = .ok (.aload_n 2, 1) := by decide +kernel
theorem dX2_takeNote_87 : decode cX2_takeNote 87 = .ok (.invokevirtual 43, 3) := by decide +kernel
theorem dX2_takeNote_90 : decode cX2_takeNote 90 = .ok (.ireturn, 1) := by decide +kernel
noncomputable def tX2_takeNote_8 : qT (Int32 × qM) :=
  oC (.int (-1 : Int32)) (eI)
noncomputable def wX2_takeNote_8 (k : qM → Option (Int32 × qM)) : qT (Int32 × qM) := fun lo st m => match lo, st with
  | [_, _, _, _], [] => k m
  | _, _ => none
set_option maxRecDepth 20000 in
theorem sX2_takeNote_8 {C : qCx} {w : qWp} (h : qOk C w RX2 cX2_takeNote 4 2 155 155) (hm : qMt C (some .int)) (hx : qNx C) : qSnd C w 4 155 (qQf C w 155 155 jI) qfin 155 17 (tX2_takeNote_8) :=
  cC (pc := 17) h dX2_takeNote_17 rfl (zI (pc := 18) h hm (Nat.le_refl _) dX2_takeNote_18)
set_option maxRecDepth 20000 in
theorem lX2_takeNote_8 (m : qM) : tX2_takeNote_8 [none, none, none, none] [] m = fX2_takeNote_8 m := rfl
theorem bX2_takeNote_8 {C : qCx} {w : qWp} (h : qOk C w RX2 cX2_takeNote 4 2 155 155) (hm : qMt C (some .int)) (hx : qNx C) : qSnd C w 4 155 (qQf C w 155 155 jI) qfin 155 17 (wX2_takeNote_8 fX2_takeNote_8) :=
  qSnd_of (fun lo st m x hr0 => by
    unfold wX2_takeNote_8 at hr0
    split at hr0
    · exact ⟨_, (qsub_n (qsub_n (qsub_n (qsub_n qsub_nil)))), (lX2_takeNote_8 _).trans hr0⟩
    · cases hr0) (sX2_takeNote_8 h hm hx)
noncomputable def tX2_takeNote_23 (j43 : qT (Int32 × qM)) (j23 : qT (Int32 × qM)) : qT (Int32 × qM) :=
  oLi 3 (oLa 2 (oCi GX8_size 1 (oCGe (j43) (oLi 3 (oC (.int (60 : Int32)) (oCGe (j43) (oLa 0 (oGf 93 1 94 (oLi 1 (oC (.int (60 : Int32)) (o2 (· * ·) (oLi 3 (o2 (· + ·) (oLa 2 (oLi 3 (oCi GX8_byteAt 2 (oWi 94 2400 (oInc 3 (1 : Int32) (j23)))))))))))))))))))
noncomputable def wX2_takeNote_23 (k : Int32 → Int32 → qM → Option (Int32 × qM)) : qT (Int32 × qM) := fun lo st m => match lo, st with
  | [some (.ref 93), some (.int a1), some (.ref 1), some (.int a3)], [] => k a1 a3 m
  | _, _ => none
noncomputable def wX2_takeNote_43 (k : Int32 → qM → Option (Int32 × qM)) : qT (Int32 × qM) := fun lo st m => match lo, st with
  | [some (.ref 93), some (.int a1), some (.ref 1), _], [] => k a1 m
  | _, _ => none
set_option maxRecDepth 20000 in
theorem sX2_takeNote_23 {C : qCx} {w : qWp} (h : qOk C w RX2 cX2_takeNote 4 2 155 155) (hm : qMt C (some .int)) (hx : qNx C) {j43 : qT (Int32 × qM)} {j23 : qT (Int32 × qM)} (k43 : qSnd C w 4 155 (qQf C w 155 155 jI) qfin 155 76 j43) (k23 : qSnd C w 4 155 (qQf C w 155 155 jI) qfin 155 40 j23) : qSnd C w 4 155 (qQf C w 155 155 jI) qfin 155 40 (tX2_takeNote_23 j43 j23) :=
  cLi (pc := 40) h dX2_takeNote_40 rfl (cLa (pc := 41) h dX2_takeNote_41 rfl (kCi (pc := 42) h (kd_X2_43 h dX2_takeNote_42) spX8_size (by decide) (by decide) (by decide) (by decide) (jCGe (pc := 45) h dX2_takeNote_45 rfl (k43) (cLi (pc := 48) h dX2_takeNote_48 rfl (cB (pc := 49) h dX2_takeNote_49 rfl (jCGe (pc := 51) h dX2_takeNote_51 rfl (k43) (cLa (pc := 54) h dX2_takeNote_54 rfl (gGf (pc := 55) h dX2_takeNote_55 ff_X2_9_93 (Nat.le_of_ble_eq_true rfl) (Nat.le_of_ble_eq_true rfl) rfl (cLi (pc := 58) h dX2_takeNote_58 rfl (cB (pc := 59) h dX2_takeNote_59 rfl (aMul (pc := 61) h dX2_takeNote_61 (cLi (pc := 62) h dX2_takeNote_62 rfl (aAdd (pc := 63) h dX2_takeNote_63 (cLa (pc := 64) h dX2_takeNote_64 rfl (cLi (pc := 65) h dX2_takeNote_65 rfl (kCi (pc := 66) h (kd_X2_48 h dX2_takeNote_66) spX8_byteAt (by decide) (by decide) (by decide) (by decide) (rWi (pc := 69) h dX2_takeNote_69 rfl (Nat.le_of_ble_eq_true rfl) (Nat.le_of_ble_eq_true rfl) (cInc (pc := 70) h dX2_takeNote_70 rfl (jGo (pc := 73) h dX2_takeNote_73 rfl (k23))))))))))))))))))))
set_option maxRecDepth 20000 in
theorem lX2_takeNote_23 (k43 : Int32 → qM → Option (Int32 × qM)) (n : Nat) (a1 : Int32) (a3 : Int32) (m : qM) : tX2_takeNote_23 (wX2_takeNote_43 k43) (wX2_takeNote_23 ((fX2_takeNote_23 k43 n))) [some (.ref 93), some (.int a1), some (.ref 1), some (.int a3)] [] m = fX2_takeNote_23 k43 (n + 1) a1 a3 m := rfl
theorem bX2_takeNote_23 {C : qCx} {w : qWp} (h : qOk C w RX2 cX2_takeNote 4 2 155 155) (hm : qMt C (some .int)) (hx : qNx C) {k43 : Int32 → qM → Option (Int32 × qM)} (h43 : qSnd C w 4 155 (qQf C w 155 155 jI) qfin 155 76 (wX2_takeNote_43 k43)) : ∀ n : Nat, qSnd C w 4 155 (qQf C w 155 155 jI) qfin 155 40 (wX2_takeNote_23 (fX2_takeNote_23 k43 n))
  | 0 => qSnd_of0 (fun lo st m x hr0 => by
    unfold wX2_takeNote_23 at hr0
    split at hr0
    · cases hr0
    · cases hr0)
  | n + 1 => by
    have ih := bX2_takeNote_23 h hm hx h43 n
    exact qSnd_of (fun lo st m x hr0 => by
    unfold wX2_takeNote_23 at hr0
    split at hr0
    · exact ⟨_, (qsub_e (qsub_e (qsub_e (qsub_e qsub_nil)))), (lX2_takeNote_23 _ n _ _ _).trans hr0⟩
    · cases hr0) (sX2_takeNote_23 h hm hx h43 ih)
noncomputable def tX2_takeNote_43 : qT (Int32 × qM) :=
  oLa 0 (oGf 93 2 95 (oLi 1 (oLa 2 (oCi GX8_size 1 (oWi 95 40 (oLa 2 (oCi GX8_size 1 (eI))))))))
set_option maxRecDepth 20000 in
theorem sX2_takeNote_43 {C : qCx} {w : qWp} (h : qOk C w RX2 cX2_takeNote 4 2 155 155) (hm : qMt C (some .int)) (hx : qNx C) : qSnd C w 4 155 (qQf C w 155 155 jI) qfin 155 76 (tX2_takeNote_43) :=
  cLa (pc := 76) h dX2_takeNote_76 rfl (gGf (pc := 77) h dX2_takeNote_77 ff_X2_15_93 (Nat.le_of_ble_eq_true rfl) (Nat.le_of_ble_eq_true rfl) rfl (cLi (pc := 80) h dX2_takeNote_80 rfl (cLa (pc := 81) h dX2_takeNote_81 rfl (kCi (pc := 82) h (kd_X2_43 h dX2_takeNote_82) spX8_size (by decide) (by decide) (by decide) (by decide) (rWi (pc := 85) h dX2_takeNote_85 rfl (Nat.le_of_ble_eq_true rfl) (Nat.le_of_ble_eq_true rfl) (cLa (pc := 86) h dX2_takeNote_86 rfl (kCi (pc := 87) h (kd_X2_43 h dX2_takeNote_87) spX8_size (by decide) (by decide) (by decide) (by decide) (zI (pc := 90) h hm (Nat.le_refl _) dX2_takeNote_90))))))))
set_option maxRecDepth 20000 in
theorem lX2_takeNote_43 (a1 : Int32) (m : qM) : tX2_takeNote_43 [some (.ref 93), some (.int a1), some (.ref 1), none] [] m = fX2_takeNote_43 a1 m := rfl
theorem bX2_takeNote_43 {C : qCx} {w : qWp} (h : qOk C w RX2 cX2_takeNote 4 2 155 155) (hm : qMt C (some .int)) (hx : qNx C) : qSnd C w 4 155 (qQf C w 155 155 jI) qfin 155 76 (wX2_takeNote_43 fX2_takeNote_43) :=
  qSnd_of (fun lo st m x hr0 => by
    unfold wX2_takeNote_43 at hr0
    split at hr0
    · exact ⟨_, (qsub_e (qsub_e (qsub_e (qsub_n qsub_nil)))), (lX2_takeNote_43 _ _).trans hr0⟩
    · cases hr0) (sX2_takeNote_43 h hm hx)
noncomputable def tX2_takeNote_21 (j23 : qT (Int32 × qM)) : qT (Int32 × qM) :=
  oC (.int (0 : Int32)) (oSi 3 (j23))
noncomputable def wX2_takeNote_21 (k : Int32 → qM → Option (Int32 × qM)) : qT (Int32 × qM) := fun lo st m => match lo, st with
  | [some (.ref 93), some (.int a1), some (.ref 1), _], [] => k a1 m
  | _, _ => none
set_option maxRecDepth 20000 in
theorem sX2_takeNote_21 {C : qCx} {w : qWp} (h : qOk C w RX2 cX2_takeNote 4 2 155 155) (hm : qMt C (some .int)) (hx : qNx C) {j23 : qT (Int32 × qM)} (k23 : qSnd C w 4 155 (qQf C w 155 155 jI) qfin 155 40 j23) : qSnd C w 4 155 (qQf C w 155 155 jI) qfin 155 38 (tX2_takeNote_21 j23) :=
  cC (pc := 38) h dX2_takeNote_38 rfl (cSi (pc := 39) h dX2_takeNote_39 rfl (k23))
set_option maxRecDepth 20000 in
theorem lX2_takeNote_21 (a1 : Int32) (m : qM) : tX2_takeNote_21 (wX2_takeNote_23 (fX2_takeNote_23 fX2_takeNote_43 FU)) [some (.ref 93), some (.int a1), some (.ref 1), none] [] m = fX2_takeNote_21 a1 m := rfl
theorem bX2_takeNote_21 {C : qCx} {w : qWp} (h : qOk C w RX2 cX2_takeNote 4 2 155 155) (hm : qMt C (some .int)) (hx : qNx C) : qSnd C w 4 155 (qQf C w 155 155 jI) qfin 155 38 (wX2_takeNote_21 fX2_takeNote_21) :=
  qSnd_of (fun lo st m x hr0 => by
    unfold wX2_takeNote_21 at hr0
    split at hr0
    · exact ⟨_, (qsub_e (qsub_e (qsub_e (qsub_n qsub_nil)))), (lX2_takeNote_21 _ _).trans hr0⟩
    · cases hr0) (sX2_takeNote_21 h hm hx (bX2_takeNote_23 h hm hx (bX2_takeNote_43 h hm hx) FU))
noncomputable def tX2_takeNote_0 (j8 : qT (Int32 × qM)) (j21 : qT (Int32 × qM)) : qT (Int32 × qM) :=
  oLa 2 (oCi GX2_isNote 1 (oEq (j8) (oLi 1 (oC (.int (0 : Int32)) (oC (.int (39 : Int32)) (oCi GX11_within 3 (oEq (j8) (oLa 0 (oGf 93 2 95 (oLi 1 (oAi 95 40 (oEq (oLa 0 (oDup (oGi 93 6 (oC (.int (1 : Int32)) (o2 (· + ·) (oPi 93 6 (j21))))))) (j21)))))))))))))
set_option maxRecDepth 20000 in
theorem sX2_takeNote_0 {C : qCx} {w : qWp} (h : qOk C w RX2 cX2_takeNote 4 2 155 155) (hm : qMt C (some .int)) (hx : qNx C) {j8 : qT (Int32 × qM)} {j21 : qT (Int32 × qM)} (k8 : qSnd C w 4 155 (qQf C w 155 155 jI) qfin 155 17 j8) (k21 : qSnd C w 4 155 (qQf C w 155 155 jI) qfin 155 38 j21) : qSnd C w 4 155 (qQf C w 155 155 jI) qfin 155 0 (tX2_takeNote_0 j8 j21) :=
  cLa (pc := 0) h dX2_takeNote_0 rfl (kCi (pc := 1) h (kd_X2_35 h dX2_takeNote_1) spX2_isNote (by decide) (by decide) (by decide) (by decide) (jEq (pc := 4) h dX2_takeNote_4 rfl (k8) (cLi (pc := 7) h dX2_takeNote_7 rfl (cC (pc := 8) h dX2_takeNote_8 rfl (cB (pc := 9) h dX2_takeNote_9 rfl (kCi (pc := 11) h (kd_X2_39 h dX2_takeNote_11) spX11_within (by decide) (by decide) (by decide) (by decide) (jNe (pc := 14) h dX2_takeNote_14 rfl (cLa (pc := 19) h dX2_takeNote_19 rfl (gGf (pc := 20) h dX2_takeNote_20 ff_X2_15_93 (Nat.le_of_ble_eq_true rfl) (Nat.le_of_ble_eq_true rfl) rfl (cLi (pc := 23) h dX2_takeNote_23 rfl (rAi (pc := 24) h dX2_takeNote_24 rfl (Nat.le_of_ble_eq_true rfl) (Nat.le_of_ble_eq_true rfl) (jNe (pc := 25) h dX2_takeNote_25 rfl (k21) (cLa (pc := 28) h dX2_takeNote_28 rfl (aDup (pc := 29) h dX2_takeNote_29 (gGi (pc := 30) h dX2_takeNote_30 ff_X2_28_93 (Nat.le_of_ble_eq_true rfl) (Nat.le_of_ble_eq_true rfl) (cC (pc := 33) h dX2_takeNote_33 rfl (aAdd (pc := 34) h dX2_takeNote_34 (gPi (pc := 35) h dX2_takeNote_35 ff_X2_28_93 (Or.inl rfl) (Nat.le_of_ble_eq_true rfl) (Nat.le_of_ble_eq_true rfl) (k21)))))))))))) (k8))))))))
set_option maxRecDepth 20000 in
theorem lX2_takeNote_0 (a1 : Int32) (m : qM) : tX2_takeNote_0 (wX2_takeNote_8 fX2_takeNote_8) (wX2_takeNote_21 fX2_takeNote_21) [some (.ref 93), some (.int a1), some (.ref 1), none] [] m = fX2_takeNote_0 a1 m := rfl
noncomputable def GX2_takeNote : qG Int32 := fun av m => match av with
  | [.ref 93, .int a1, .ref 1] => fX2_takeNote a1 m
  | _ => none
theorem spX2_takeNote : qSpI yX2_takeNote (.code yX2_takeNote cX2_takeNote 4 (some .int)) 2 qfin 155 155 1 GX2_takeNote := by
  intro av m x m' hG
  unfold GX2_takeNote at hG
  split at hG
  · rename_i a1
    rw [fX2_takeNote_d] at hG
    exact ⟨qmeet (J := jI) (r := (x, m')) (av := [.ref 93, .int a1, .ref 1]) (by decide +kernel) (Nat.le_of_ble_eq_true rfl) (fun C w h hm hx hn => sX2_takeNote_0 h hm hx (bX2_takeNote_8 h hm hx) (bX2_takeNote_21 h hm hx)) ((lX2_takeNote_0 _ _).trans hG) (Nat.le_of_ble_eq_true rfl), Or.inl ⟨93, _, 2, _, _, rfl, by decide, rfl, qCk_2, rfl⟩⟩
  · cases hG
theorem ml_X2_52 : Jvm.Cond.methodLinkNest RX2 52 yX11_has "ParentEve" ∈ qTw := qm6 (List.mem_of_getElem? (i := 78) (by decide +kernel)) (by decide +kernel)
theorem kd_X2_52 {C : qCx} {w : qWp} {cc : ByteArray} {nL dp n0 n1 pc : Nat} (h : qOk C w RX2 cc nL dp n0 n1) (d : decode cc pc = .ok (.invokestatic 52, 3)) : qCallOk C w nL dp n0 n1 pc 2 0 yX11_has (.code yX11_has cX11_has 2 (some .boolean)) := kindSN h d ml_X2_52 im_X11_has in_ParentEve co_X11_has yk_X11_has (by decide)
theorem dX2_setLet_0 : decode cX2_setLet 0 = .ok (.aload_n 0, 1) := by decide +kernel
theorem dX2_setLet_1 : decode cX2_setLet 1 = .ok (.getfield 18, 3) := by decide +kernel
theorem dX2_setLet_4 : decode cX2_setLet 4 = .ok (.iload_n 1, 1) := by decide +kernel
theorem dX2_setLet_5 : decode cX2_setLet 5 = .ok (.iaload, 1) := by decide +kernel
theorem dX2_setLet_6 : decode cX2_setLet 6 = .ok (.iload_n 2, 1) := by decide +kernel
theorem dX2_setLet_7 : decode cX2_setLet 7 = .ok (.invokestatic 52, 3) := by decide +kernel
theorem dX2_setLet_10 : decode cX2_setLet 10 = .ok (.iload_n 3, 1) := by decide +kernel
theorem dX2_setLet_11 : decode cX2_setLet 11 = .ok (.if_icmp .ne 5, 3) := by decide +kernel
theorem dX2_setLet_14 : decode cX2_setLet 14 = .ok (.iconst 0, 1) := by decide +kernel
theorem dX2_setLet_15 : decode cX2_setLet 15 = .ok (.ireturn, 1) := by decide +kernel
theorem dX2_setLet_16 : decode cX2_setLet 16 = .ok (.aload_n 0, 1) := by decide +kernel
theorem dX2_setLet_17 : decode cX2_setLet 17 = .ok (.getfield 18, 3) := by decide +kernel
theorem dX2_setLet_20 : decode cX2_setLet 20 = .ok (.iload_n 1, 1) := by decide +kernel
theorem dX2_setLet_21 : decode cX2_setLet 21 = .ok (.dup2, 1) := by decide +kernel
theorem dX2_setLet_22 : decode cX2_setLet 22 = .ok (.iaload, 1) := by decide +kernel
theorem dX2_setLet_23 : decode cX2_setLet 23 = .ok (.iconst 1, 1) := by decide +kernel
theorem dX2_setLet_24 : decode cX2_setLet 24 = .ok (.iload_n 2, 1) := by decide +kernel
theorem dX2_setLet_25 : decode cX2_setLet 25 = .ok (.ishl, 1) := by decide +kernel
theorem dX2_setLet_26 : decode cX2_setLet 26 = .ok (.ixor, 1) := by decide +kernel
theorem dX2_setLet_27 : decode cX2_setLet 27 = .ok (.iastore, 1) := by decide +kernel
theorem dX2_setLet_28 : decode cX2_setLet 28 = .ok (.iconst 1, 1) := by decide +kernel
theorem dX2_setLet_29 : decode cX2_setLet 29 = .ok (.ireturn, 1) := by decide +kernel
noncomputable def tX2_setLet_0 : qT (Int32 × qM) :=
  oLa 0 (oGf 93 3 96 (oLi 1 (oAi 96 40 (oLi 2 (oCi GX11_has 2 (oLi 3 (oCEq (oC (.int (0 : Int32)) (eZ)) (oLa 0 (oGf 93 3 96 (oLi 1 (oDup2 (oAi 96 40 (oC (.int (1 : Int32)) (oLi 2 (o2 (fun x y => x <<< (y &&& 31)) (o2 (· ^^^ ·) (oWi 96 40 (oC (.int (1 : Int32)) (eZ)))))))))))))))))))
set_option maxRecDepth 20000 in
theorem sX2_setLet_0 {C : qCx} {w : qWp} (h : qOk C w RX2 cX2_setLet 4 1 155 155) (hm : qMt C (some .boolean)) (hx : qNx C) : qSnd C w 4 155 (qQf C w 155 155 jI) qfin 155 0 (tX2_setLet_0) :=
  cLa (pc := 0) h dX2_setLet_0 rfl (gGf (pc := 1) h dX2_setLet_1 ff_X2_18_93 (Nat.le_of_ble_eq_true rfl) (Nat.le_of_ble_eq_true rfl) rfl (cLi (pc := 4) h dX2_setLet_4 rfl (rAi (pc := 5) h dX2_setLet_5 rfl (Nat.le_of_ble_eq_true rfl) (Nat.le_of_ble_eq_true rfl) (cLi (pc := 6) h dX2_setLet_6 rfl (kCi (pc := 7) h (kd_X2_52 h dX2_setLet_7) spX11_has (by decide) (by decide) (by decide) (by decide) (cLi (pc := 10) h dX2_setLet_10 rfl (jCNe (pc := 11) h dX2_setLet_11 rfl (cLa (pc := 16) h dX2_setLet_16 rfl (gGf (pc := 17) h dX2_setLet_17 ff_X2_18_93 (Nat.le_of_ble_eq_true rfl) (Nat.le_of_ble_eq_true rfl) rfl (cLi (pc := 20) h dX2_setLet_20 rfl (aDup2 (pc := 21) h dX2_setLet_21 (rAi (pc := 22) h dX2_setLet_22 rfl (Nat.le_of_ble_eq_true rfl) (Nat.le_of_ble_eq_true rfl) (cC (pc := 23) h dX2_setLet_23 rfl (cLi (pc := 24) h dX2_setLet_24 rfl (aShl (pc := 25) h dX2_setLet_25 (aXor (pc := 26) h dX2_setLet_26 (rWi (pc := 27) h dX2_setLet_27 rfl (Nat.le_of_ble_eq_true rfl) (Nat.le_of_ble_eq_true rfl) (cC (pc := 28) h dX2_setLet_28 rfl (zZ (pc := 29) h hm (Nat.le_refl _) dX2_setLet_29)))))))))))) (cC (pc := 14) h dX2_setLet_14 rfl (zZ (pc := 15) h hm (Nat.le_refl _) dX2_setLet_15)))))))))
set_option maxRecDepth 20000 in
theorem lX2_setLet_0 (a1 : Int32) (a2 : Int32) (a3 : Int32) (m : qM) : tX2_setLet_0 [some (.ref 93), some (.int a1), some (.int a2), some (.int a3)] [] m = fX2_setLet_0 a1 a2 a3 m := rfl
noncomputable def GX2_setLet : qG Int32 := fun av m => match av with
  | [.ref 93, .int a1, .int a2, .int a3] => fX2_setLet a1 a2 a3 m
  | _ => none
theorem spX2_setLet : qSpI yX2_setLet (.code yX2_setLet cX2_setLet 4 (some .boolean)) 1 qfin 155 155 1 GX2_setLet := by
  intro av m x m' hG
  unfold GX2_setLet at hG
  split at hG
  · rename_i a1 a2 a3
    rw [fX2_setLet_d] at hG
    exact ⟨qmeet (J := jI) (r := (x, m')) (av := [.ref 93, .int a1, .int a2, .int a3]) (by decide +kernel) (Nat.le_of_ble_eq_true rfl) (fun C w h hm hx hn => sX2_setLet_0 h hm hx) ((lX2_setLet_0 _ _ _ _).trans hG) (Nat.le_of_ble_eq_true rfl), Or.inl ⟨93, _, 2, _, _, rfl, by decide, rfl, qCk_2, rfl⟩⟩
  · cases hG
theorem ml_X2_56 : Jvm.Cond.methodLink RX2 56 yX4_teacherOf ∈ qTw := qm6 (List.mem_of_getElem? (i := 87) (by decide +kernel)) (by decide +kernel)
theorem kd_X2_56 {C : qCx} {w : qWp} {cc : ByteArray} {nL dp n0 n1 pc : Nat} (h : qOk C w RX2 cc nL dp n0 n1) (d : decode cc pc = .ok (.invokevirtual 56, 3)) : qCallOk C w nL dp n0 n1 pc 2 1 yX4_teacherOf (.code yX4_teacherOf cX4_teacherOf 2 (some .int)) := kindV h d ml_X2_56 im_X4_teacherOf se_X4_teacherOf in_ParentEve_Plan co_X4_teacherOf yk_X4_teacherOf (by decide)
theorem dX2_mayRead_0 : decode cX2_mayRead 0 = .ok (.aload_n 0, 1) := by decide +kernel
theorem dX2_mayRead_1 : decode cX2_mayRead 1 = .ok (.getfield 31, 3) := by decide +kernel
theorem dX2_mayRead_4 : decode cX2_mayRead 4 = .ok (.iload_n 2, 1) := by decide +kernel
theorem dX2_mayRead_5 : decode cX2_mayRead 5 = .ok (.invokevirtual 56, 3) := by decide +kernel
theorem dX2_mayRead_8 : decode cX2_mayRead 8 = .ok (.iload_n 1, 1) := by decide +kernel
theorem dX2_mayRead_9 : decode cX2_mayRead 9 = .ok (.if_icmp .eq 16, 3) := by decide +kernel
theorem dX2_mayRead_12 : decode cX2_mayRead 12 = .ok (.aload_n 0, 1) := by decide +kernel
theorem dX2_mayRead_13 : decode cX2_mayRead 13 = .ok (.getfield 18, 3) := by decide +kernel
theorem dX2_mayRead_16 : decode cX2_mayRead 16 = .ok (.iload_n 2, 1) := by decide +kernel
theorem dX2_mayRead_17 : decode cX2_mayRead 17 = .ok (.iaload, 1) := by decide +kernel
theorem dX2_mayRead_18 : decode cX2_mayRead 18 = .ok (.iload_n 1, 1) := by decide +kernel
theorem dX2_mayRead_19 : decode cX2_mayRead 19 = .ok (.invokestatic 52, 3) := by decide +kernel
theorem dX2_mayRead_22 : decode cX2_mayRead 22 = .ok (.ifCond .eq 7, 3) := by decide +kernel
theorem dX2_mayRead_25 : decode cX2_mayRead 25 = .ok (.iconst 1, 1) := by decide +kernel
theorem dX2_mayRead_26 : decode cX2_mayRead 26 = .ok (.goto 4, 3) := by decide +kernel
theorem dX2_mayRead_29 : decode cX2_mayRead 29 = .ok (.iconst 0, 1) := by decide +kernel
theorem dX2_mayRead_30 : decode cX2_mayRead 30 = .ok (.ireturn, 1) := by decide +kernel
noncomputable def tX2_mayRead_16 : qT (Int32 × qM) :=
  eZ
noncomputable def wX2_mayRead_16 (k : Int32 → qM → Option (Int32 × qM)) : qT (Int32 × qM) := fun lo st m => match lo, st with
  | [_, _, _], [.int s0] => k s0 m
  | _, _ => none
set_option maxRecDepth 20000 in
theorem sX2_mayRead_16 {C : qCx} {w : qWp} (h : qOk C w RX2 cX2_mayRead 3 1 155 155) (hm : qMt C (some .boolean)) (hx : qNx C) : qSnd C w 3 155 (qQf C w 155 155 jI) qfin 155 30 (tX2_mayRead_16) :=
  zZ (pc := 30) h hm (Nat.le_refl _) dX2_mayRead_30
set_option maxRecDepth 20000 in
theorem lX2_mayRead_16 (s0 : Int32) (m : qM) : tX2_mayRead_16 [none, none, none] [(.int s0)] m = fX2_mayRead_16 s0 m := rfl
theorem bX2_mayRead_16 {C : qCx} {w : qWp} (h : qOk C w RX2 cX2_mayRead 3 1 155 155) (hm : qMt C (some .boolean)) (hx : qNx C) : qSnd C w 3 155 (qQf C w 155 155 jI) qfin 155 30 (wX2_mayRead_16 fX2_mayRead_16) :=
  qSnd_of (fun lo st m x hr0 => by
    unfold wX2_mayRead_16 at hr0
    split at hr0
    · exact ⟨_, (qsub_n (qsub_n (qsub_n qsub_nil))), (lX2_mayRead_16 _ _).trans hr0⟩
    · cases hr0) (sX2_mayRead_16 h hm hx)
noncomputable def tX2_mayRead_13 (j16 : qT (Int32 × qM)) : qT (Int32 × qM) :=
  oC (.int (1 : Int32)) (j16)
noncomputable def wX2_mayRead_13 (k : qM → Option (Int32 × qM)) : qT (Int32 × qM) := fun lo st m => match lo, st with
  | [_, _, _], [] => k m
  | _, _ => none
set_option maxRecDepth 20000 in
theorem sX2_mayRead_13 {C : qCx} {w : qWp} (h : qOk C w RX2 cX2_mayRead 3 1 155 155) (hm : qMt C (some .boolean)) (hx : qNx C) {j16 : qT (Int32 × qM)} (k16 : qSnd C w 3 155 (qQf C w 155 155 jI) qfin 155 30 j16) : qSnd C w 3 155 (qQf C w 155 155 jI) qfin 155 25 (tX2_mayRead_13 j16) :=
  cC (pc := 25) h dX2_mayRead_25 rfl (jGo (pc := 26) h dX2_mayRead_26 rfl (k16))
set_option maxRecDepth 20000 in
theorem lX2_mayRead_13 (m : qM) : tX2_mayRead_13 (wX2_mayRead_16 fX2_mayRead_16) [none, none, none] [] m = fX2_mayRead_13 m := rfl
theorem bX2_mayRead_13 {C : qCx} {w : qWp} (h : qOk C w RX2 cX2_mayRead 3 1 155 155) (hm : qMt C (some .boolean)) (hx : qNx C) : qSnd C w 3 155 (qQf C w 155 155 jI) qfin 155 25 (wX2_mayRead_13 fX2_mayRead_13) :=
  qSnd_of (fun lo st m x hr0 => by
    unfold wX2_mayRead_13 at hr0
    split at hr0
    · exact ⟨_, (qsub_n (qsub_n (qsub_n qsub_nil))), (lX2_mayRead_13 _).trans hr0⟩
    · cases hr0) (sX2_mayRead_13 h hm hx (bX2_mayRead_16 h hm hx))
noncomputable def tX2_mayRead_0 (j13 : qT (Int32 × qM)) (j16 : qT (Int32 × qM)) : qT (Int32 × qM) :=
  oLa 0 (oGf 93 0 58 (oLi 2 (oCi GX4_teacherOf 2 (oLi 1 (oCEq (j13) (oLa 0 (oGf 93 3 96 (oLi 2 (oAi 96 40 (oLi 1 (oCi GX11_has 2 (oEq (oC (.int (0 : Int32)) (j16)) (j13)))))))))))))
set_option maxRecDepth 20000 in
theorem sX2_mayRead_0 {C : qCx} {w : qWp} (h : qOk C w RX2 cX2_mayRead 3 1 155 155) (hm : qMt C (some .boolean)) (hx : qNx C) {j13 : qT (Int32 × qM)} {j16 : qT (Int32 × qM)} (k13 : qSnd C w 3 155 (qQf C w 155 155 jI) qfin 155 25 j13) (k16 : qSnd C w 3 155 (qQf C w 155 155 jI) qfin 155 30 j16) : qSnd C w 3 155 (qQf C w 155 155 jI) qfin 155 0 (tX2_mayRead_0 j13 j16) :=
  cLa (pc := 0) h dX2_mayRead_0 rfl (gGf (pc := 1) h dX2_mayRead_1 ff_X2_31_93 (Nat.le_of_ble_eq_true rfl) (Nat.le_of_ble_eq_true rfl) rfl (cLi (pc := 4) h dX2_mayRead_4 rfl (kCi (pc := 5) h (kd_X2_56 h dX2_mayRead_5) spX4_teacherOf (by decide) (by decide) (by decide) (by decide) (cLi (pc := 8) h dX2_mayRead_8 rfl (jCEq (pc := 9) h dX2_mayRead_9 rfl (k13) (cLa (pc := 12) h dX2_mayRead_12 rfl (gGf (pc := 13) h dX2_mayRead_13 ff_X2_18_93 (Nat.le_of_ble_eq_true rfl) (Nat.le_of_ble_eq_true rfl) rfl (cLi (pc := 16) h dX2_mayRead_16 rfl (rAi (pc := 17) h dX2_mayRead_17 rfl (Nat.le_of_ble_eq_true rfl) (Nat.le_of_ble_eq_true rfl) (cLi (pc := 18) h dX2_mayRead_18 rfl (kCi (pc := 19) h (kd_X2_52 h dX2_mayRead_19) spX11_has (by decide) (by decide) (by decide) (by decide) (jEq (pc := 22) h dX2_mayRead_22 rfl (cC (pc := 29) h dX2_mayRead_29 rfl (k16)) (k13)))))))))))))
set_option maxRecDepth 20000 in
theorem lX2_mayRead_0 (a1 : Int32) (a2 : Int32) (m : qM) : tX2_mayRead_0 (wX2_mayRead_13 fX2_mayRead_13) (wX2_mayRead_16 fX2_mayRead_16) [some (.ref 93), some (.int a1), some (.int a2)] [] m = fX2_mayRead_0 a1 a2 m := rfl
noncomputable def GX2_mayRead : qG Int32 := fun av m => match av with
  | [.ref 93, .int a1, .int a2] => fX2_mayRead a1 a2 m
  | _ => none
theorem spX2_mayRead : qSpI yX2_mayRead (.code yX2_mayRead cX2_mayRead 3 (some .boolean)) 1 qfin 155 155 1 GX2_mayRead := by
  intro av m x m' hG
  unfold GX2_mayRead at hG
  split at hG
  · rename_i a1 a2
    rw [fX2_mayRead_d] at hG
    exact ⟨qmeet (J := jI) (r := (x, m')) (av := [.ref 93, .int a1, .int a2]) (by decide +kernel) (Nat.le_of_ble_eq_true rfl) (fun C w h hm hx hn => sX2_mayRead_0 h hm hx (bX2_mayRead_13 h hm hx) (bX2_mayRead_16 h hm hx)) ((lX2_mayRead_0 _ _ _).trans hG) (Nat.le_of_ble_eq_true rfl), Or.inl ⟨93, _, 2, _, _, rfl, by decide, rfl, qCk_2, rfl⟩⟩
  · cases hG
theorem dX2_byteOf_0 : decode cX2_byteOf 0 = .ok (.iload_n 2, 1) := by decide +kernel
theorem dX2_byteOf_1 : decode cX2_byteOf 1 = .ok (.iconst 0, 1) := by decide +kernel
theorem dX2_byteOf_2 : decode cX2_byteOf 2 = .ok (.aload_n 0, 1) := by decide +kernel
theorem dX2_byteOf_3 : decode cX2_byteOf 3 = .ok (.getfield 15, 3) := by decide +kernel
theorem dX2_byteOf_6 : decode cX2_byteOf 6 = .ok (.iload_n 1, 1) := by decide +kernel
theorem dX2_byteOf_7 : decode cX2_byteOf 7 = .ok (.iaload, 1) := by decide +kernel
theorem dX2_byteOf_8 : decode cX2_byteOf 8 = .ok (.iconst 1, 1) := by decide +kernel
theorem dX2_byteOf_9 : decode cX2_byteOf 9 = .ok (.isub, 1) := by decide +kernel
theorem dX2_byteOf_10 : decode cX2_byteOf 10 = .ok (.invokestatic 39, 3) := by decide +kernel
theorem dX2_byteOf_13 : decode cX2_byteOf 13 = .ok (.ifCond .eq 17, 3) := by decide +kernel
theorem dX2_byteOf_16 : decode cX2_byteOf 16 = .ok (.aload_n 0, 1) := by decide +kernel
theorem dX2_byteOf_17 : decode cX2_byteOf 17 = .ok (.getfield 9, 3) := by decide +kernel
theorem dX2_byteOf_20 : decode cX2_byteOf 20 = .ok (.iload_n 1, 1) := by decide +kernel
theorem dX2_byteOf_21 : decode cX2_byteOf 21 = .ok (.bipush 60, 2) := by decide +kernel
theorem dX2_byteOf_23 : decode cX2_byteOf 23 = .ok (.imul, 1) := by decide +kernel
theorem dX2_byteOf_24 : decode cX2_byteOf 24 = .ok (.iload_n 2, 1) := by decide +kernel
theorem dX2_byteOf_25 : decode cX2_byteOf 25 = .ok (.iadd, 1) := by decide +kernel
theorem dX2_byteOf_26 : decode cX2_byteOf 26 = .ok (.iaload, 1) := by decide +kernel
theorem dX2_byteOf_27 : decode cX2_byteOf 27 = .ok (.goto 4, 3) := by decide +kernel
theorem dX2_byteOf_30 : decode cX2_byteOf 30 = .ok (.iconst (-1), 1) := by decide +kernel
theorem dX2_byteOf_31 : decode cX2_byteOf 31 = .ok (.ireturn, 1) := by decide +kernel
noncomputable def tX2_byteOf_20 : qT (Int32 × qM) :=
  eI
noncomputable def wX2_byteOf_20 (k : Int32 → qM → Option (Int32 × qM)) : qT (Int32 × qM) := fun lo st m => match lo, st with
  | [_, _, _], [.int s0] => k s0 m
  | _, _ => none
set_option maxRecDepth 20000 in
theorem sX2_byteOf_20 {C : qCx} {w : qWp} (h : qOk C w RX2 cX2_byteOf 3 1 155 155) (hm : qMt C (some .int)) (hx : qNx C) : qSnd C w 3 155 (qQf C w 155 155 jI) qfin 155 31 (tX2_byteOf_20) :=
  zI (pc := 31) h hm (Nat.le_refl _) dX2_byteOf_31
set_option maxRecDepth 20000 in
theorem lX2_byteOf_20 (s0 : Int32) (m : qM) : tX2_byteOf_20 [none, none, none] [(.int s0)] m = fX2_byteOf_20 s0 m := rfl
theorem bX2_byteOf_20 {C : qCx} {w : qWp} (h : qOk C w RX2 cX2_byteOf 3 1 155 155) (hm : qMt C (some .int)) (hx : qNx C) : qSnd C w 3 155 (qQf C w 155 155 jI) qfin 155 31 (wX2_byteOf_20 fX2_byteOf_20) :=
  qSnd_of (fun lo st m x hr0 => by
    unfold wX2_byteOf_20 at hr0
    split at hr0
    · exact ⟨_, (qsub_n (qsub_n (qsub_n qsub_nil))), (lX2_byteOf_20 _ _).trans hr0⟩
    · cases hr0) (sX2_byteOf_20 h hm hx)
noncomputable def tX2_byteOf_0 (j20 : qT (Int32 × qM)) : qT (Int32 × qM) :=
  oLi 2 (oC (.int (0 : Int32)) (oLa 0 (oGf 93 2 95 (oLi 1 (oAi 95 40 (oC (.int (1 : Int32)) (o2 (· - ·) (oCi GX11_within 3 (oEq (oC (.int (-1 : Int32)) (j20)) (oLa 0 (oGf 93 1 94 (oLi 1 (oC (.int (60 : Int32)) (o2 (· * ·) (oLi 2 (o2 (· + ·) (oAi 94 2400 (j20))))))))))))))))))
set_option maxRecDepth 20000 in
theorem sX2_byteOf_0 {C : qCx} {w : qWp} (h : qOk C w RX2 cX2_byteOf 3 1 155 155) (hm : qMt C (some .int)) (hx : qNx C) {j20 : qT (Int32 × qM)} (k20 : qSnd C w 3 155 (qQf C w 155 155 jI) qfin 155 31 j20) : qSnd C w 3 155 (qQf C w 155 155 jI) qfin 155 0 (tX2_byteOf_0 j20) :=
  cLi (pc := 0) h dX2_byteOf_0 rfl (cC (pc := 1) h dX2_byteOf_1 rfl (cLa (pc := 2) h dX2_byteOf_2 rfl (gGf (pc := 3) h dX2_byteOf_3 ff_X2_15_93 (Nat.le_of_ble_eq_true rfl) (Nat.le_of_ble_eq_true rfl) rfl (cLi (pc := 6) h dX2_byteOf_6 rfl (rAi (pc := 7) h dX2_byteOf_7 rfl (Nat.le_of_ble_eq_true rfl) (Nat.le_of_ble_eq_true rfl) (cC (pc := 8) h dX2_byteOf_8 rfl (aSub (pc := 9) h dX2_byteOf_9 (kCi (pc := 10) h (kd_X2_39 h dX2_byteOf_10) spX11_within (by decide) (by decide) (by decide) (by decide) (jEq (pc := 13) h dX2_byteOf_13 rfl (cC (pc := 30) h dX2_byteOf_30 rfl (k20)) (cLa (pc := 16) h dX2_byteOf_16 rfl (gGf (pc := 17) h dX2_byteOf_17 ff_X2_9_93 (Nat.le_of_ble_eq_true rfl) (Nat.le_of_ble_eq_true rfl) rfl (cLi (pc := 20) h dX2_byteOf_20 rfl (cB (pc := 21) h dX2_byteOf_21 rfl (aMul (pc := 23) h dX2_byteOf_23 (cLi (pc := 24) h dX2_byteOf_24 rfl (aAdd (pc := 25) h dX2_byteOf_25 (rAi (pc := 26) h dX2_byteOf_26 rfl (Nat.le_of_ble_eq_true rfl) (Nat.le_of_ble_eq_true rfl) (jGo (pc := 27) h dX2_byteOf_27 rfl (k20)))))))))))))))))))
set_option maxRecDepth 20000 in
theorem lX2_byteOf_0 (a1 : Int32) (a2 : Int32) (m : qM) : tX2_byteOf_0 (wX2_byteOf_20 fX2_byteOf_20) [some (.ref 93), some (.int a1), some (.int a2)] [] m = fX2_byteOf_0 a1 a2 m := rfl
noncomputable def GX2_byteOf : qG Int32 := fun av m => match av with
  | [.ref 93, .int a1, .int a2] => fX2_byteOf a1 a2 m
  | _ => none
theorem spX2_byteOf : qSpI yX2_byteOf (.code yX2_byteOf cX2_byteOf 3 (some .int)) 1 qfin 155 155 1 GX2_byteOf := by
  intro av m x m' hG
  unfold GX2_byteOf at hG
  split at hG
  · rename_i a1 a2
    rw [fX2_byteOf_d] at hG
    exact ⟨qmeet (J := jI) (r := (x, m')) (av := [.ref 93, .int a1, .int a2]) (by decide +kernel) (Nat.le_of_ble_eq_true rfl) (fun C w h hm hx hn => sX2_byteOf_0 h hm hx (bX2_byteOf_20 h hm hx)) ((lX2_byteOf_0 _ _ _).trans hG) (Nat.le_of_ble_eq_true rfl), Or.inl ⟨93, _, 2, _, _, rfl, by decide, rfl, qCk_2, rfl⟩⟩
  · cases hG
theorem dX2_small_0 : decode cX2_small 0 = .ok (.iload_n 0, 1) := by decide +kernel
theorem dX2_small_1 : decode cX2_small 1 = .ok (.bipush 65, 2) := by decide +kernel
theorem dX2_small_3 : decode cX2_small 3 = .ok (.bipush 90, 2) := by decide +kernel
theorem dX2_small_5 : decode cX2_small 5 = .ok (.invokestatic 39, 3) := by decide +kernel
theorem dX2_small_8 : decode cX2_small 8 = .ok (.ifCond .eq 10, 3) := by decide +kernel
theorem dX2_small_11 : decode cX2_small 11 = .ok (.iload_n 0, 1) := by decide +kernel
theorem dX2_small_12 : decode cX2_small 12 = .ok (.bipush 32, 2) := by decide +kernel
theorem dX2_small_14 : decode cX2_small 14 = .ok (.iadd, 1) := by decide +kernel
theorem dX2_small_15 : decode cX2_small 15 = .ok (.goto 4, 3) := by decide +kernel
theorem dX2_small_18 : decode cX2_small 18 = .ok (.iload_n 0, 1) := by decide +kernel
theorem dX2_small_19 : decode cX2_small 19 = .ok (.ireturn, 1) := by decide +kernel
noncomputable def tX2_small_10 : qT (Int32 × qM) :=
  eI
noncomputable def wX2_small_10 (k : Int32 → qM → Option (Int32 × qM)) : qT (Int32 × qM) := fun lo st m => match lo, st with
  | [_], [.int s0] => k s0 m
  | _, _ => none
set_option maxRecDepth 20000 in
theorem sX2_small_10 {C : qCx} {w : qWp} (h : qOk C w RX2 cX2_small 1 1 155 155) (hm : qMt C (some .int)) (hx : qNx C) : qSnd C w 1 155 (qQf C w 155 155 jI) qfin 155 19 (tX2_small_10) :=
  zI (pc := 19) h hm (Nat.le_refl _) dX2_small_19
set_option maxRecDepth 20000 in
theorem lX2_small_10 (s0 : Int32) (m : qM) : tX2_small_10 [none] [(.int s0)] m = fX2_small_10 s0 m := rfl
theorem bX2_small_10 {C : qCx} {w : qWp} (h : qOk C w RX2 cX2_small 1 1 155 155) (hm : qMt C (some .int)) (hx : qNx C) : qSnd C w 1 155 (qQf C w 155 155 jI) qfin 155 19 (wX2_small_10 fX2_small_10) :=
  qSnd_of (fun lo st m x hr0 => by
    unfold wX2_small_10 at hr0
    split at hr0
    · exact ⟨_, (qsub_n qsub_nil), (lX2_small_10 _ _).trans hr0⟩
    · cases hr0) (sX2_small_10 h hm hx)
noncomputable def tX2_small_0 (j10 : qT (Int32 × qM)) : qT (Int32 × qM) :=
  oLi 0 (oC (.int (65 : Int32)) (oC (.int (90 : Int32)) (oCi GX11_within 3 (oEq (oLi 0 (j10)) (oLi 0 (oC (.int (32 : Int32)) (o2 (· + ·) (j10))))))))
set_option maxRecDepth 20000 in
theorem sX2_small_0 {C : qCx} {w : qWp} (h : qOk C w RX2 cX2_small 1 1 155 155) (hm : qMt C (some .int)) (hx : qNx C) {j10 : qT (Int32 × qM)} (k10 : qSnd C w 1 155 (qQf C w 155 155 jI) qfin 155 19 j10) : qSnd C w 1 155 (qQf C w 155 155 jI) qfin 155 0 (tX2_small_0 j10) :=
  cLi (pc := 0) h dX2_small_0 rfl (cB (pc := 1) h dX2_small_1 rfl (cB (pc := 3) h dX2_small_3 rfl (kCi (pc := 5) h (kd_X2_39 h dX2_small_5) spX11_within (by decide) (by decide) (by decide) (by decide) (jEq (pc := 8) h dX2_small_8 rfl (cLi (pc := 18) h dX2_small_18 rfl (k10)) (cLi (pc := 11) h dX2_small_11 rfl (cB (pc := 12) h dX2_small_12 rfl (aAdd (pc := 14) h dX2_small_14 (jGo (pc := 15) h dX2_small_15 rfl (k10)))))))))
set_option maxRecDepth 20000 in
theorem lX2_small_0 (a0 : Int32) (m : qM) : tX2_small_0 (wX2_small_10 fX2_small_10) [some (.int a0)] [] m = fX2_small_0 a0 m := rfl
noncomputable def GX2_small : qG Int32 := fun av m => match av with
  | [.int a0] => fX2_small a0 m
  | _ => none
theorem spX2_small : qSpI yX2_small (.code yX2_small cX2_small 1 (some .int)) 1 qfin 155 155 0 GX2_small := by
  intro av m x m' hG
  unfold GX2_small at hG
  split at hG
  · rename_i a0
    rw [fX2_small_d] at hG
    exact ⟨qmeet (J := jI) (r := (x, m')) (av := [.int a0]) (by decide +kernel) (Nat.le_of_ble_eq_true rfl) (fun C w h hm hx hn => sX2_small_0 h hm hx (bX2_small_10 h hm hx)) ((lX2_small_0 _ _).trans hG) (Nat.le_of_ble_eq_true rfl), trivial⟩
  · cases hG
theorem im_X2_small : Jvm.Cond.static yX2_small ∈ qTw := qm6 (List.mem_of_getElem? (i := 107) (by decide +kernel)) (by decide +kernel)
theorem co_X2_small : Jvm.Cond.code yX2_small cX2_small 1 (some .int) ∈ qTw := qm6 (List.mem_of_getElem? (i := 108) (by decide +kernel)) (by decide +kernel)
theorem yk_X2_small : qYk yX2_small 1 := ⟨⟨by decide +kernel, by decide +kernel⟩, by decide +kernel⟩
theorem ml_X2_86 : Jvm.Cond.methodLink RX2 86 yX2_small ∈ qTw := qm6 (List.mem_of_getElem? (i := 106) (by decide +kernel)) (by decide +kernel)
theorem kd_X2_86 {C : qCx} {w : qWp} {cc : ByteArray} {nL dp n0 n1 pc : Nat} (h : qOk C w RX2 cc nL dp n0 n1) (d : decode cc pc = .ok (.invokestatic 86, 3)) : qCallOk C w nL dp n0 n1 pc 1 0 yX2_small (.code yX2_small cX2_small 1 (some .int)) := kindS h d ml_X2_86 im_X2_small in_ParentEve_Notes co_X2_small yk_X2_small (by decide)
theorem dX2_isLetter_0 : decode cX2_isLetter 0 = .ok (.iload_n 0, 1) := by decide +kernel
theorem dX2_isLetter_1 : decode cX2_isLetter 1 = .ok (.invokestatic 86, 3) := by decide +kernel
theorem dX2_isLetter_4 : decode cX2_isLetter 4 = .ok (.bipush 97, 2) := by decide +kernel
theorem dX2_isLetter_6 : decode cX2_isLetter 6 = .ok (.bipush 122, 2) := by decide +kernel
theorem dX2_isLetter_8 : decode cX2_isLetter 8 = .ok (.invokestatic 39, 3) := by decide +kernel
theorem dX2_isLetter_11 : decode cX2_isLetter 11 = .ok (.ireturn, 1) := by decide +kernel
noncomputable def tX2_isLetter_0 : qT (Int32 × qM) :=
  oLi 0 (oCi GX2_small 1 (oC (.int (97 : Int32)) (oC (.int (122 : Int32)) (oCi GX11_within 3 (eZ)))))
set_option maxRecDepth 20000 in
theorem sX2_isLetter_0 {C : qCx} {w : qWp} (h : qOk C w RX2 cX2_isLetter 1 2 155 155) (hm : qMt C (some .boolean)) (hx : qNx C) : qSnd C w 1 155 (qQf C w 155 155 jI) qfin 155 0 (tX2_isLetter_0) :=
  cLi (pc := 0) h dX2_isLetter_0 rfl (kCi (pc := 1) h (kd_X2_86 h dX2_isLetter_1) spX2_small (by decide) (by decide) (by decide) (by decide) (cB (pc := 4) h dX2_isLetter_4 rfl (cB (pc := 6) h dX2_isLetter_6 rfl (kCi (pc := 8) h (kd_X2_39 h dX2_isLetter_8) spX11_within (by decide) (by decide) (by decide) (by decide) (zZ (pc := 11) h hm (Nat.le_refl _) dX2_isLetter_11)))))
set_option maxRecDepth 20000 in
theorem lX2_isLetter_0 (a0 : Int32) (m : qM) : tX2_isLetter_0 [some (.int a0)] [] m = fX2_isLetter_0 a0 m := rfl
noncomputable def GX2_isLetter : qG Int32 := fun av m => match av with
  | [.int a0] => fX2_isLetter a0 m
  | _ => none
theorem spX2_isLetter : qSpI yX2_isLetter (.code yX2_isLetter cX2_isLetter 1 (some .boolean)) 2 qfin 155 155 0 GX2_isLetter := by
  intro av m x m' hG
  unfold GX2_isLetter at hG
  split at hG
  · rename_i a0
    rw [fX2_isLetter_d] at hG
    exact ⟨qmeet (J := jI) (r := (x, m')) (av := [.int a0]) (by decide +kernel) (Nat.le_of_ble_eq_true rfl) (fun C w h hm hx hn => sX2_isLetter_0 h hm hx) ((lX2_isLetter_0 _ _).trans hG) (Nat.le_of_ble_eq_true rfl), trivial⟩
  · cases hG
theorem im_X2_isLetter : Jvm.Cond.static yX2_isLetter ∈ qTw := qm6 (List.mem_of_getElem? (i := 104) (by decide +kernel)) (by decide +kernel)
theorem co_X2_isLetter : Jvm.Cond.code yX2_isLetter cX2_isLetter 1 (some .boolean) ∈ qTw := qm6 (List.mem_of_getElem? (i := 105) (by decide +kernel)) (by decide +kernel)
theorem yk_X2_isLetter : qYk yX2_isLetter 1 := ⟨⟨by decide +kernel, by decide +kernel⟩, by decide +kernel⟩
theorem ml_X2_74 : Jvm.Cond.methodLink RX2 74 yX2_isLetter ∈ qTw := qm6 (List.mem_of_getElem? (i := 103) (by decide +kernel)) (by decide +kernel)
theorem kd_X2_74 {C : qCx} {w : qWp} {cc : ByteArray} {nL dp n0 n1 pc : Nat} (h : qOk C w RX2 cc nL dp n0 n1) (d : decode cc pc = .ok (.invokestatic 74, 3)) : qCallOk C w nL dp n0 n1 pc 1 0 yX2_isLetter (.code yX2_isLetter cX2_isLetter 1 (some .boolean)) := kindS h d ml_X2_74 im_X2_isLetter in_ParentEve_Notes co_X2_isLetter yk_X2_isLetter (by decide)
theorem dX2_isWord_0 : decode cX2_isWord 0 = .ok (.aload_n 0, 1) := by decide +kernel
theorem dX2_isWord_1 : decode cX2_isWord 1 = .ok (.invokevirtual 43, 3) := by decide +kernel
theorem dX2_isWord_4 : decode cX2_isWord 4 = .ok (.iconst 1, 1) := by decide +kernel
theorem dX2_isWord_5 : decode cX2_isWord 5 = .ok (.bipush 20, 2) := by decide +kernel
theorem dX2_isWord_7 : decode cX2_isWord 7 = .ok (.invokestatic 39, 3) := by decide +kernel
theorem dX2_isWord_10 : decode cX2_isWord 10 = .ok (.ifCond .ne 5, 3) := by decide +kernel
theorem dX2_isWord_13 : decode cX2_isWord 13 = .ok (.iconst 0, 1) := by decide +kernel
theorem dX2_isWord_14 : decode cX2_isWord 14 = .ok (.ireturn, 1) := by decide +kernel
theorem dX2_isWord_15 : decode cX2_isWord 15 = .ok (.iconst 0, 1) := by decide +kernel
theorem dX2_isWord_16 : decode cX2_isWord 16 = .ok (.istore_n 1, 1) := by decide +kernel
theorem dX2_isWord_17 : decode cX2_isWord 17 = .ok (.iload_n 1, 1) := by decide +kernel
theorem dX2_isWord_18 : decode cX2_isWord 18 = .ok (.aload_n 0, 1) := by decide +kernel
theorem dX2_isWord_19 : decode cX2_isWord 19 = .ok (.invokevirtual 43, 3) := by decide +kernel
theorem dX2_isWord_22 : decode cX2_isWord 22 = .ok (.if_icmp .ge 22, 3) := by decide +kernel
theorem dX2_isWord_25 : decode cX2_isWord 25 = .ok (.aload_n 0, 1) := by decide +kernel
theorem dX2_isWord_26 : decode cX2_isWord 26 = .ok (.iload_n 1, 1) := by decide +kernel
theorem dX2_isWord_27 : decode cX2_isWord 27 = .ok (.invokevirtual 48, 3) := by decide +kernel
theorem dX2_isWord_30 : decode cX2_isWord 30 = .ok (.invokestatic 74, 3) := by decide +kernel
theorem dX2_isWord_33 : decode cX2_isWord 33 = .ok (.ifCond .ne 5, 3) := by decide +kernel
theorem dX2_isWord_36 : decode cX2_isWord 36 = .ok (.iconst 0, 1) := by decide +kernel
theorem dX2_isWord_37 : decode cX2_isWord 37 = .ok (.ireturn, 1) := by decide +kernel
theorem dX2_isWord_38 : decode cX2_isWord 38 = .ok (.iinc 1 1, 3) := by decide +kernel
theorem dX2_isWord_41 : decode cX2_isWord 41 = .ok (.goto (-24), 3) := by decide +kernel
theorem dX2_isWord_44 : decode cX2_isWord 44 = .ok (.iconst 1, 1) := by decide +kernel
theorem dX2_isWord_45 : decode cX2_isWord 45 = .ok (.ireturn, 1) := by decide +kernel
noncomputable def tX2_isWord_10 (j10 : qT (Int32 × qM)) : qT (Int32 × qM) :=
  oLi 1 (oLa 0 (oCi GX8_size 1 (oCGe (oC (.int (1 : Int32)) (eZ)) (oLa 0 (oLi 1 (oCi GX8_byteAt 2 (oCi GX2_isLetter 1 (oEq (oC (.int (0 : Int32)) (eZ)) (oInc 1 (1 : Int32) (j10))))))))))
noncomputable def wX2_isWord_10 (k : Int32 → qM → Option (Int32 × qM)) : qT (Int32 × qM) := fun lo st m => match lo, st with
  | [some (.ref 1), some (.int a1)], [] => k a1 m
  | _, _ => none
set_option maxRecDepth 20000 in
theorem sX2_isWord_10 {C : qCx} {w : qWp} (h : qOk C w RX2 cX2_isWord 2 3 155 155) (hm : qMt C (some .boolean)) (hx : qNx C) {j10 : qT (Int32 × qM)} (k10 : qSnd C w 2 155 (qQf C w 155 155 jI) qfin 155 17 j10) : qSnd C w 2 155 (qQf C w 155 155 jI) qfin 155 17 (tX2_isWord_10 j10) :=
  cLi (pc := 17) h dX2_isWord_17 rfl (cLa (pc := 18) h dX2_isWord_18 rfl (kCi (pc := 19) h (kd_X2_43 h dX2_isWord_19) spX8_size (by decide) (by decide) (by decide) (by decide) (jCGe (pc := 22) h dX2_isWord_22 rfl (cC (pc := 44) h dX2_isWord_44 rfl (zZ (pc := 45) h hm (Nat.le_refl _) dX2_isWord_45)) (cLa (pc := 25) h dX2_isWord_25 rfl (cLi (pc := 26) h dX2_isWord_26 rfl (kCi (pc := 27) h (kd_X2_48 h dX2_isWord_27) spX8_byteAt (by decide) (by decide) (by decide) (by decide) (kCi (pc := 30) h (kd_X2_74 h dX2_isWord_30) spX2_isLetter (by decide) (by decide) (by decide) (by decide) (jNe (pc := 33) h dX2_isWord_33 rfl (cInc (pc := 38) h dX2_isWord_38 rfl (jGo (pc := 41) h dX2_isWord_41 rfl (k10))) (cC (pc := 36) h dX2_isWord_36 rfl (zZ (pc := 37) h hm (Nat.le_refl _) dX2_isWord_37))))))))))
set_option maxRecDepth 20000 in
theorem lX2_isWord_10 (n : Nat) (a1 : Int32) (m : qM) : tX2_isWord_10 (wX2_isWord_10 ((fX2_isWord_10 n))) [some (.ref 1), some (.int a1)] [] m = fX2_isWord_10 (n + 1) a1 m := rfl
theorem bX2_isWord_10 {C : qCx} {w : qWp} (h : qOk C w RX2 cX2_isWord 2 3 155 155) (hm : qMt C (some .boolean)) (hx : qNx C) : ∀ n : Nat, qSnd C w 2 155 (qQf C w 155 155 jI) qfin 155 17 (wX2_isWord_10 (fX2_isWord_10 n))
  | 0 => qSnd_of0 (fun lo st m x hr0 => by
    unfold wX2_isWord_10 at hr0
    split at hr0
    · cases hr0
    · cases hr0)
  | n + 1 => by
    have ih := bX2_isWord_10 h hm hx n
    exact qSnd_of (fun lo st m x hr0 => by
    unfold wX2_isWord_10 at hr0
    split at hr0
    · exact ⟨_, (qsub_e (qsub_e qsub_nil)), (lX2_isWord_10 n _ _).trans hr0⟩
    · cases hr0) (sX2_isWord_10 h hm hx ih)
noncomputable def tX2_isWord_0 (j10 : qT (Int32 × qM)) : qT (Int32 × qM) :=
  oLa 0 (oCi GX8_size 1 (oC (.int (1 : Int32)) (oC (.int (20 : Int32)) (oCi GX11_within 3 (oEq (oC (.int (0 : Int32)) (eZ)) (oC (.int (0 : Int32)) (oSi 1 (j10))))))))
set_option maxRecDepth 20000 in
theorem sX2_isWord_0 {C : qCx} {w : qWp} (h : qOk C w RX2 cX2_isWord 2 3 155 155) (hm : qMt C (some .boolean)) (hx : qNx C) {j10 : qT (Int32 × qM)} (k10 : qSnd C w 2 155 (qQf C w 155 155 jI) qfin 155 17 j10) : qSnd C w 2 155 (qQf C w 155 155 jI) qfin 155 0 (tX2_isWord_0 j10) :=
  cLa (pc := 0) h dX2_isWord_0 rfl (kCi (pc := 1) h (kd_X2_43 h dX2_isWord_1) spX8_size (by decide) (by decide) (by decide) (by decide) (cC (pc := 4) h dX2_isWord_4 rfl (cB (pc := 5) h dX2_isWord_5 rfl (kCi (pc := 7) h (kd_X2_39 h dX2_isWord_7) spX11_within (by decide) (by decide) (by decide) (by decide) (jNe (pc := 10) h dX2_isWord_10 rfl (cC (pc := 15) h dX2_isWord_15 rfl (cSi (pc := 16) h dX2_isWord_16 rfl (k10))) (cC (pc := 13) h dX2_isWord_13 rfl (zZ (pc := 14) h hm (Nat.le_refl _) dX2_isWord_14)))))))
set_option maxRecDepth 20000 in
theorem lX2_isWord_0 (m : qM) : tX2_isWord_0 (wX2_isWord_10 (fX2_isWord_10 FU)) [some (.ref 1), none] [] m = fX2_isWord_0 m := rfl
noncomputable def GX2_isWord : qG Int32 := fun av m => match av with
  | [.ref 1] => fX2_isWord m
  | _ => none
theorem spX2_isWord : qSpI yX2_isWord (.code yX2_isWord cX2_isWord 2 (some .boolean)) 3 qfin 155 155 0 GX2_isWord := by
  intro av m x m' hG
  unfold GX2_isWord at hG
  split at hG
  · rw [fX2_isWord_d] at hG
    exact ⟨qmeet (J := jI) (r := (x, m')) (av := [.ref 1]) (by decide +kernel) (Nat.le_of_ble_eq_true rfl) (fun C w h hm hx hn => sX2_isWord_0 h hm hx (bX2_isWord_10 h hm hx FU)) ((lX2_isWord_0 _).trans hG) (Nat.le_of_ble_eq_true rfl), trivial⟩
  · cases hG
theorem im_X2_byteOf : Jvm.Cond.instanceMethod yX2_byteOf ∈ qTw := qm6 (List.mem_of_getElem? (i := 89) (by decide +kernel)) (by decide +kernel)
theorem se_X2_byteOf : Jvm.Cond.selects yX2_byteOf.cls yX2_byteOf yX2_byteOf ∈ qTw := qm6 (List.mem_of_getElem? (i := 90) (by decide +kernel)) (by decide +kernel)
theorem co_X2_byteOf : Jvm.Cond.code yX2_byteOf cX2_byteOf 3 (some .int) ∈ qTw := qm6 (List.mem_of_getElem? (i := 91) (by decide +kernel)) (by decide +kernel)
theorem yk_X2_byteOf : qYk yX2_byteOf 2 := ⟨⟨by decide +kernel, by decide +kernel⟩, by decide +kernel⟩
theorem ml_X2_78 : Jvm.Cond.methodLink RX2 78 yX2_byteOf ∈ qTw := qm6 (List.mem_of_getElem? (i := 115) (by decide +kernel)) (by decide +kernel)
theorem kd_X2_78 {C : qCx} {w : qWp} {cc : ByteArray} {nL dp n0 n1 pc : Nat} (h : qOk C w RX2 cc nL dp n0 n1) (d : decode cc pc = .ok (.invokevirtual 78, 3)) : qCallOk C w nL dp n0 n1 pc 3 1 yX2_byteOf (.code yX2_byteOf cX2_byteOf 3 (some .int)) := kindV h d ml_X2_78 im_X2_byteOf se_X2_byteOf in_ParentEve_Notes co_X2_byteOf yk_X2_byteOf (by decide)
theorem dX2_isSame_0 : decode cX2_isSame 0 = .ok (.iconst 0, 1) := by decide +kernel
theorem dX2_isSame_1 : decode cX2_isSame 1 = .ok (.istore 4, 2) := by decide +kernel
theorem dX2_isSame_3 : decode cX2_isSame 3 = .ok (.iload 4, 2) := by decide +kernel
theorem dX2_isSame_5 : decode cX2_isSame 5 = .ok (.aload_n 3, 1) := by decide +kernel
theorem dX2_isSame_6 : decode cX2_isSame 6 = .ok (.invokevirtual 43, 3) := by decide +kernel
theorem dX2_isSame_9 : decode cX2_isSame 9 = .ok (.if_icmp .ge 35, 3) := by decide +kernel
theorem dX2_isSame_12 : decode cX2_isSame 12 = .ok (.aload_n 0, 1) := by decide +kernel
theorem dX2_isSame_13 : decode cX2_isSame 13 = .ok (.iload_n 1, 1) := by decide +kernel
theorem dX2_isSame_14 : decode cX2_isSame 14 = .ok (.iload_n 2, 1) := by decide +kernel
theorem dX2_isSame_15 : decode cX2_isSame 15 = .ok (.iload 4, 2) := by decide +kernel
theorem dX2_isSame_17 : decode cX2_isSame 17 = .ok (.iadd, 1) := by decide +kernel
theorem dX2_isSame_18 : decode cX2_isSame 18 = .ok (.invokevirtual 78, 3) := by decide +kernel
theorem dX2_isSame_21 : decode cX2_isSame 21 = .ok (.invokestatic 86, 3) := by decide +kernel
theorem dX2_isSame_24 : decode cX2_isSame 24 = .ok (.aload_n 3, 1) := by decide +kernel
theorem dX2_isSame_25 : decode cX2_isSame 25 = .ok (.iload 4, 2) := by decide +kernel
theorem dX2_isSame_27 : decode cX2_isSame 27 = .ok (.invokevirtual 48, 3) := by decide +kernel
theorem dX2_isSame_30 : decode cX2_isSame 30 = .ok (.invokestatic 86, 3) := by decide +kernel
theorem dX2_isSame_33 : decode cX2_isSame 33 = .ok (.if_icmp .eq 5, 3) := by decide +kernel
theorem dX2_isSame_36 : decode cX2_isSame 36 = .ok (.iconst 0, 1) := by decide +kernel
theorem dX2_isSame_37 : decode cX2_isSame 37 = .ok (.ireturn, 1) := by decide +kernel
theorem dX2_isSame_38 : decode cX2_isSame 38 = .ok (.iinc 4 1, 3) := by decide +kernel
theorem dX2_isSame_41 : decode cX2_isSame 41 = .ok (.goto (-38), 3) := by decide +kernel
theorem dX2_isSame_44 : decode cX2_isSame 44 = .ok (.iconst 1, 1) := by decide +kernel
theorem dX2_isSame_45 : decode cX2_isSame 45 = .ok (.ireturn, 1) := by decide +kernel
noncomputable def tX2_isSame_2 (j2 : qT (Int32 × qM)) : qT (Int32 × qM) :=
  oLi 4 (oLa 3 (oCi GX8_size 1 (oCGe (oC (.int (1 : Int32)) (eZ)) (oLa 0 (oLi 1 (oLi 2 (oLi 4 (o2 (· + ·) (oCi GX2_byteOf 3 (oCi GX2_small 1 (oLa 3 (oLi 4 (oCi GX8_byteAt 2 (oCi GX2_small 1 (oCEq (oInc 4 (1 : Int32) (j2)) (oC (.int (0 : Int32)) (eZ)))))))))))))))))
noncomputable def wX2_isSame_2 (k : Int32 → Int32 → Int32 → qM → Option (Int32 × qM)) : qT (Int32 × qM) := fun lo st m => match lo, st with
  | [some (.ref 93), some (.int a1), some (.int a2), some (.ref 1), some (.int a4)], [] => k a1 a2 a4 m
  | _, _ => none
set_option maxRecDepth 20000 in
theorem sX2_isSame_2 {C : qCx} {w : qWp} (h : qOk C w RX2 cX2_isSame 5 2 155 155) (hm : qMt C (some .boolean)) (hx : qNx C) {j2 : qT (Int32 × qM)} (k2 : qSnd C w 5 155 (qQf C w 155 155 jI) qfin 155 3 j2) : qSnd C w 5 155 (qQf C w 155 155 jI) qfin 155 3 (tX2_isSame_2 j2) :=
  cLI (pc := 3) h dX2_isSame_3 (cLa (pc := 5) h dX2_isSame_5 rfl (kCi (pc := 6) h (kd_X2_43 h dX2_isSame_6) spX8_size (by decide) (by decide) (by decide) (by decide) (jCGe (pc := 9) h dX2_isSame_9 rfl (cC (pc := 44) h dX2_isSame_44 rfl (zZ (pc := 45) h hm (Nat.le_refl _) dX2_isSame_45)) (cLa (pc := 12) h dX2_isSame_12 rfl (cLi (pc := 13) h dX2_isSame_13 rfl (cLi (pc := 14) h dX2_isSame_14 rfl (cLI (pc := 15) h dX2_isSame_15 (aAdd (pc := 17) h dX2_isSame_17 (kCi (pc := 18) h (kd_X2_78 h dX2_isSame_18) spX2_byteOf (by decide) (by decide) (by decide) (by decide) (kCi (pc := 21) h (kd_X2_86 h dX2_isSame_21) spX2_small (by decide) (by decide) (by decide) (by decide) (cLa (pc := 24) h dX2_isSame_24 rfl (cLI (pc := 25) h dX2_isSame_25 (kCi (pc := 27) h (kd_X2_48 h dX2_isSame_27) spX8_byteAt (by decide) (by decide) (by decide) (by decide) (kCi (pc := 30) h (kd_X2_86 h dX2_isSame_30) spX2_small (by decide) (by decide) (by decide) (by decide) (jCEq (pc := 33) h dX2_isSame_33 rfl (cInc (pc := 38) h dX2_isSame_38 rfl (jGo (pc := 41) h dX2_isSame_41 rfl (k2))) (cC (pc := 36) h dX2_isSame_36 rfl (zZ (pc := 37) h hm (Nat.le_refl _) dX2_isSame_37)))))))))))))))))
set_option maxRecDepth 20000 in
theorem lX2_isSame_2 (n : Nat) (a1 : Int32) (a2 : Int32) (a4 : Int32) (m : qM) : tX2_isSame_2 (wX2_isSame_2 ((fX2_isSame_2 n))) [some (.ref 93), some (.int a1), some (.int a2), some (.ref 1), some (.int a4)] [] m = fX2_isSame_2 (n + 1) a1 a2 a4 m := rfl
theorem bX2_isSame_2 {C : qCx} {w : qWp} (h : qOk C w RX2 cX2_isSame 5 2 155 155) (hm : qMt C (some .boolean)) (hx : qNx C) : ∀ n : Nat, qSnd C w 5 155 (qQf C w 155 155 jI) qfin 155 3 (wX2_isSame_2 (fX2_isSame_2 n))
  | 0 => qSnd_of0 (fun lo st m x hr0 => by
    unfold wX2_isSame_2 at hr0
    split at hr0
    · cases hr0
    · cases hr0)
  | n + 1 => by
    have ih := bX2_isSame_2 h hm hx n
    exact qSnd_of (fun lo st m x hr0 => by
    unfold wX2_isSame_2 at hr0
    split at hr0
    · exact ⟨_, (qsub_e (qsub_e (qsub_e (qsub_e (qsub_e qsub_nil))))), (lX2_isSame_2 n _ _ _ _).trans hr0⟩
    · cases hr0) (sX2_isSame_2 h hm hx ih)
noncomputable def tX2_isSame_0 (j2 : qT (Int32 × qM)) : qT (Int32 × qM) :=
  oC (.int (0 : Int32)) (oSi 4 (j2))
set_option maxRecDepth 20000 in
theorem sX2_isSame_0 {C : qCx} {w : qWp} (h : qOk C w RX2 cX2_isSame 5 2 155 155) (hm : qMt C (some .boolean)) (hx : qNx C) {j2 : qT (Int32 × qM)} (k2 : qSnd C w 5 155 (qQf C w 155 155 jI) qfin 155 3 j2) : qSnd C w 5 155 (qQf C w 155 155 jI) qfin 155 0 (tX2_isSame_0 j2) :=
  cC (pc := 0) h dX2_isSame_0 rfl (cSI (pc := 1) h dX2_isSame_1 (k2))
set_option maxRecDepth 20000 in
theorem lX2_isSame_0 (a1 : Int32) (a2 : Int32) (m : qM) : tX2_isSame_0 (wX2_isSame_2 (fX2_isSame_2 FU)) [some (.ref 93), some (.int a1), some (.int a2), some (.ref 1), none] [] m = fX2_isSame_0 a1 a2 m := rfl
noncomputable def GX2_isSame : qG Int32 := fun av m => match av with
  | [.ref 93, .int a1, .int a2, .ref 1] => fX2_isSame a1 a2 m
  | _ => none
theorem spX2_isSame : qSpI yX2_isSame (.code yX2_isSame cX2_isSame 5 (some .boolean)) 2 qfin 155 155 1 GX2_isSame := by
  intro av m x m' hG
  unfold GX2_isSame at hG
  split at hG
  · rename_i a1 a2
    rw [fX2_isSame_d] at hG
    exact ⟨qmeet (J := jI) (r := (x, m')) (av := [.ref 93, .int a1, .int a2, .ref 1]) (by decide +kernel) (Nat.le_of_ble_eq_true rfl) (fun C w h hm hx hn => sX2_isSame_0 h hm hx (bX2_isSame_2 h hm hx FU)) ((lX2_isSame_0 _ _ _).trans hG) (Nat.le_of_ble_eq_true rfl), Or.inl ⟨93, _, 2, _, _, rfl, by decide, rfl, qCk_2, rfl⟩⟩
  · cases hG
theorem im_X2_isSame : Jvm.Cond.instanceMethod yX2_isSame ∈ qTw := qm6 (List.mem_of_getElem? (i := 118) (by decide +kernel)) (by decide +kernel)
theorem se_X2_isSame : Jvm.Cond.selects yX2_isSame.cls yX2_isSame yX2_isSame ∈ qTw := List.mem_filter.mpr ⟨List.mem_append_left _ (List.mem_of_getElem? (i := 34) (by decide +kernel)), rfl⟩
theorem co_X2_isSame : Jvm.Cond.code yX2_isSame cX2_isSame 5 (some .boolean) ∈ qTw := qm6 (List.mem_of_getElem? (i := 119) (by decide +kernel)) (by decide +kernel)
theorem yk_X2_isSame : qYk yX2_isSame 3 := ⟨⟨by decide +kernel, by decide +kernel⟩, by decide +kernel⟩
theorem ml_X2_82 : Jvm.Cond.methodLink RX2 82 yX2_isSame ∈ qTw := qm6 (List.mem_of_getElem? (i := 116) (by decide +kernel)) (by decide +kernel)
theorem kd_X2_82 {C : qCx} {w : qWp} {cc : ByteArray} {nL dp n0 n1 pc : Nat} (h : qOk C w RX2 cc nL dp n0 n1) (d : decode cc pc = .ok (.invokevirtual 82, 3)) : qCallOk C w nL dp n0 n1 pc 4 1 yX2_isSame (.code yX2_isSame cX2_isSame 5 (some .boolean)) := kindV h d ml_X2_82 im_X2_isSame se_X2_isSame in_ParentEve_Notes co_X2_isSame yk_X2_isSame (by decide)
theorem dX2_says_0 : decode cX2_says 0 = .ok (.iconst 0, 1) := by decide +kernel
theorem dX2_says_1 : decode cX2_says 1 = .ok (.istore_n 3, 1) := by decide +kernel
theorem dX2_says_2 : decode cX2_says 2 = .ok (.iconst 0, 1) := by decide +kernel
theorem dX2_says_3 : decode cX2_says 3 = .ok (.istore 4, 2) := by decide +kernel
theorem dX2_says_5 : decode cX2_says 5 = .ok (.iload 4, 2) := by decide +kernel
theorem dX2_says_7 : decode cX2_says 7 = .ok (.aload_n 0, 1) := by decide +kernel
theorem dX2_says_8 : decode cX2_says 8 = .ok (.getfield 15, 3) := by decide +kernel
theorem dX2_says_11 : decode cX2_says 11 = .ok (.iload_n 1, 1) := by decide +kernel
theorem dX2_says_12 : decode cX2_says 12 = .ok (.iaload, 1) := by decide +kernel
theorem dX2_says_13 : decode cX2_says 13 = .ok (.if_icmp .gt 50, 3) := by decide +kernel
theorem dX2_says_16 : decode cX2_says 16 = .ok (.aload_n 0, 1) := by decide +kernel
theorem dX2_says_17 : decode cX2_says 17 = .ok (.iload_n 1, 1) := by decide +kernel
theorem dX2_says_18 : decode cX2_says 18 = .ok (.iload 4, 2) := by decide +kernel
theorem dX2_says_20 : decode cX2_says 20 = .ok (.invokevirtual 78, 3) := by decide +kernel
theorem dX2_says_23 : decode cX2_says 23 = .ok (.invokestatic 74, 3) := by decide +kernel
theorem dX2_says_26 : decode cX2_says 26 = .ok (.ifCond .ne 31, 3) := by decide +kernel
theorem dX2_says_29 : decode cX2_says 29 = .ok (.iload 4, 2) := by decide +kernel
theorem dX2_says_31 : decode cX2_says 31 = .ok (.iload_n 3, 1) := by decide +kernel
theorem dX2_says_32 : decode cX2_says 32 = .ok (.isub, 1) := by decide +kernel
theorem dX2_says_33 : decode cX2_says 33 = .ok (.aload_n 2, 1) := by decide +kernel
theorem dX2_says_34 : decode cX2_says 34 = .ok (.invokevirtual 43, 3) := by decide +kernel
theorem dX2_says_37 : decode cX2_says 37 = .ok (.if_icmp .ne 15, 3) := by decide +kernel
theorem dX2_says_40 : decode cX2_says 40 = .ok (.aload_n 0, 1) := by decide +kernel
theorem dX2_says_41 : decode cX2_says 41 = .ok (.iload_n 1, 1) := by decide +kernel
theorem dX2_says_42 : decode cX2_says 42 = .ok (.iload_n 3, 1) := by decide +kernel
theorem dX2_says_43 : decode cX2_says 43 = .ok (.aload_n 2, 1) := by decide +kernel
theorem dX2_says_44 : decode cX2_says 44 = .ok (.invokevirtual 82, 3) := by decide +kernel
theorem dX2_says_47 : decode cX2_says 47 = .ok (.ifCond .eq 5, 3) := by decide +kernel
theorem dX2_says_50 : decode cX2_says 50 = .ok (.iconst 1, 1) := by decide +kernel
theorem dX2_says_51 : decode cX2_says 51 = .ok (.ireturn, 1) := by decide +kernel
theorem dX2_says_52 : decode cX2_says 52 = .ok (.iload 4, 2) := by decide +kernel
theorem dX2_says_54 : decode cX2_says 54 = .ok (.iconst 1, 1) := by decide +kernel
theorem dX2_says_55 : decode cX2_says 55 = .ok (.iadd, 1) := by decide +kernel
theorem dX2_says_56 : decode cX2_says 56 = .ok (.istore_n 3, 1) := by decide +kernel
theorem dX2_says_57 : decode cX2_says 57 = .ok (.iinc 4 1, 3) := by decide +kernel
theorem dX2_says_60 : decode cX2_says 60 = .ok (.goto (-55), 3) := by decide +kernel
theorem dX2_says_63 : decode cX2_says 63 = .ok (.iconst 0, 1) := by decide +kernel
theorem dX2_says_64 : decode cX2_says 64 = .ok (.ireturn, 1) := by decide +kernel
noncomputable def tX2_says_34 (j4 : qT (Int32 × qM)) : qT (Int32 × qM) :=
  oInc 4 (1 : Int32) (j4)
noncomputable def wX2_says_34 (k : Int32 → Int32 → Int32 → qM → Option (Int32 × qM)) : qT (Int32 × qM) := fun lo st m => match lo, st with
  | [some (.ref 93), some (.int a1), some (.ref 1), some (.int a3), some (.int a4)], [] => k a1 a3 a4 m
  | _, _ => none
noncomputable def wX2_says_4 (k : Int32 → Int32 → Int32 → qM → Option (Int32 × qM)) : qT (Int32 × qM) := fun lo st m => match lo, st with
  | [some (.ref 93), some (.int a1), some (.ref 1), some (.int a3), some (.int a4)], [] => k a1 a3 a4 m
  | _, _ => none
set_option maxRecDepth 20000 in
theorem sX2_says_34 {C : qCx} {w : qWp} (h : qOk C w RX2 cX2_says 5 3 155 155) (hm : qMt C (some .boolean)) (hx : qNx C) {j4 : qT (Int32 × qM)} (k4 : qSnd C w 5 155 (qQf C w 155 155 jI) qfin 155 5 j4) : qSnd C w 5 155 (qQf C w 155 155 jI) qfin 155 57 (tX2_says_34 j4) :=
  cInc (pc := 57) h dX2_says_57 rfl (jGo (pc := 60) h dX2_says_60 rfl (k4))
set_option maxRecDepth 20000 in
theorem lX2_says_34 (k4 : Int32 → Int32 → Int32 → qM → Option (Int32 × qM)) (a1 : Int32) (a3 : Int32) (a4 : Int32) (m : qM) : tX2_says_34 (wX2_says_4 k4) [some (.ref 93), some (.int a1), some (.ref 1), some (.int a3), some (.int a4)] [] m = fX2_says_34 k4 a1 a3 a4 m := rfl
theorem bX2_says_34 {C : qCx} {w : qWp} (h : qOk C w RX2 cX2_says 5 3 155 155) (hm : qMt C (some .boolean)) (hx : qNx C) {k4 : Int32 → Int32 → Int32 → qM → Option (Int32 × qM)} (h4 : qSnd C w 5 155 (qQf C w 155 155 jI) qfin 155 5 (wX2_says_4 k4)) : qSnd C w 5 155 (qQf C w 155 155 jI) qfin 155 57 (wX2_says_34 (fX2_says_34 k4)) :=
  qSnd_of (fun lo st m x hr0 => by
    unfold wX2_says_34 at hr0
    split at hr0
    · exact ⟨_, (qsub_e (qsub_e (qsub_e (qsub_e (qsub_e qsub_nil))))), (lX2_says_34 _ _ _ _ _).trans hr0⟩
    · cases hr0) (sX2_says_34 h hm hx h4)
noncomputable def tX2_says_30 (j34 : qT (Int32 × qM)) : qT (Int32 × qM) :=
  oLi 4 (oC (.int (1 : Int32)) (o2 (· + ·) (oSi 3 (j34))))
noncomputable def wX2_says_30 (k : Int32 → Int32 → qM → Option (Int32 × qM)) : qT (Int32 × qM) := fun lo st m => match lo, st with
  | [some (.ref 93), some (.int a1), some (.ref 1), _, some (.int a4)], [] => k a1 a4 m
  | _, _ => none
set_option maxRecDepth 20000 in
theorem sX2_says_30 {C : qCx} {w : qWp} (h : qOk C w RX2 cX2_says 5 3 155 155) (hm : qMt C (some .boolean)) (hx : qNx C) {j34 : qT (Int32 × qM)} (k34 : qSnd C w 5 155 (qQf C w 155 155 jI) qfin 155 57 j34) : qSnd C w 5 155 (qQf C w 155 155 jI) qfin 155 52 (tX2_says_30 j34) :=
  cLI (pc := 52) h dX2_says_52 (cC (pc := 54) h dX2_says_54 rfl (aAdd (pc := 55) h dX2_says_55 (cSi (pc := 56) h dX2_says_56 rfl (k34))))
set_option maxRecDepth 20000 in
theorem lX2_says_30 (k4 : Int32 → Int32 → Int32 → qM → Option (Int32 × qM)) (a1 : Int32) (a4 : Int32) (m : qM) : tX2_says_30 (wX2_says_34 (fX2_says_34 k4)) [some (.ref 93), some (.int a1), some (.ref 1), none, some (.int a4)] [] m = fX2_says_30 k4 a1 a4 m := rfl
theorem bX2_says_30 {C : qCx} {w : qWp} (h : qOk C w RX2 cX2_says 5 3 155 155) (hm : qMt C (some .boolean)) (hx : qNx C) {k4 : Int32 → Int32 → Int32 → qM → Option (Int32 × qM)} (h4 : qSnd C w 5 155 (qQf C w 155 155 jI) qfin 155 5 (wX2_says_4 k4)) : qSnd C w 5 155 (qQf C w 155 155 jI) qfin 155 52 (wX2_says_30 (fX2_says_30 k4)) :=
  qSnd_of (fun lo st m x hr0 => by
    unfold wX2_says_30 at hr0
    split at hr0
    · exact ⟨_, (qsub_e (qsub_e (qsub_e (qsub_n (qsub_e qsub_nil))))), (lX2_says_30 _ _ _ _).trans hr0⟩
    · cases hr0) (sX2_says_30 h hm hx (bX2_says_34 h hm hx h4))
noncomputable def tX2_says_4 (j34 : qT (Int32 × qM)) (j30 : qT (Int32 × qM)) : qT (Int32 × qM) :=
  oLi 4 (oLa 0 (oGf 93 2 95 (oLi 1 (oAi 95 40 (oCGt (oC (.int (0 : Int32)) (eZ)) (oLa 0 (oLi 1 (oLi 4 (oCi GX2_byteOf 3 (oCi GX2_isLetter 1 (oEq (oLi 4 (oLi 3 (o2 (· - ·) (oLa 2 (oCi GX8_size 1 (oCEq (oLa 0 (oLi 1 (oLi 3 (oLa 2 (oCi GX2_isSame 4 (oEq (j30) (oC (.int (1 : Int32)) (eZ)))))))) (j30))))))) (j34))))))))))))
set_option maxRecDepth 20000 in
theorem sX2_says_4 {C : qCx} {w : qWp} (h : qOk C w RX2 cX2_says 5 3 155 155) (hm : qMt C (some .boolean)) (hx : qNx C) {j34 : qT (Int32 × qM)} {j30 : qT (Int32 × qM)} (k34 : qSnd C w 5 155 (qQf C w 155 155 jI) qfin 155 57 j34) (k30 : qSnd C w 5 155 (qQf C w 155 155 jI) qfin 155 52 j30) : qSnd C w 5 155 (qQf C w 155 155 jI) qfin 155 5 (tX2_says_4 j34 j30) :=
  cLI (pc := 5) h dX2_says_5 (cLa (pc := 7) h dX2_says_7 rfl (gGf (pc := 8) h dX2_says_8 ff_X2_15_93 (Nat.le_of_ble_eq_true rfl) (Nat.le_of_ble_eq_true rfl) rfl (cLi (pc := 11) h dX2_says_11 rfl (rAi (pc := 12) h dX2_says_12 rfl (Nat.le_of_ble_eq_true rfl) (Nat.le_of_ble_eq_true rfl) (jCGt (pc := 13) h dX2_says_13 rfl (cC (pc := 63) h dX2_says_63 rfl (zZ (pc := 64) h hm (Nat.le_refl _) dX2_says_64)) (cLa (pc := 16) h dX2_says_16 rfl (cLi (pc := 17) h dX2_says_17 rfl (cLI (pc := 18) h dX2_says_18 (kCi (pc := 20) h (kd_X2_78 h dX2_says_20) spX2_byteOf (by decide) (by decide) (by decide) (by decide) (kCi (pc := 23) h (kd_X2_74 h dX2_says_23) spX2_isLetter (by decide) (by decide) (by decide) (by decide) (jNe (pc := 26) h dX2_says_26 rfl (k34) (cLI (pc := 29) h dX2_says_29 (cLi (pc := 31) h dX2_says_31 rfl (aSub (pc := 32) h dX2_says_32 (cLa (pc := 33) h dX2_says_33 rfl (kCi (pc := 34) h (kd_X2_43 h dX2_says_34) spX8_size (by decide) (by decide) (by decide) (by decide) (jCNe (pc := 37) h dX2_says_37 rfl (k30) (cLa (pc := 40) h dX2_says_40 rfl (cLi (pc := 41) h dX2_says_41 rfl (cLi (pc := 42) h dX2_says_42 rfl (cLa (pc := 43) h dX2_says_43 rfl (kCi (pc := 44) h (kd_X2_82 h dX2_says_44) spX2_isSame (by decide) (by decide) (by decide) (by decide) (jEq (pc := 47) h dX2_says_47 rfl (k30) (cC (pc := 50) h dX2_says_50 rfl (zZ (pc := 51) h hm (Nat.le_refl _) dX2_says_51)))))))))))))))))))))))))
set_option maxRecDepth 20000 in
theorem lX2_says_4 (n : Nat) (a1 : Int32) (a3 : Int32) (a4 : Int32) (m : qM) : tX2_says_4 (wX2_says_34 (fX2_says_34 (fX2_says_4 n))) (wX2_says_30 (fX2_says_30 (fX2_says_4 n))) [some (.ref 93), some (.int a1), some (.ref 1), some (.int a3), some (.int a4)] [] m = fX2_says_4 (n + 1) a1 a3 a4 m := rfl
theorem bX2_says_4 {C : qCx} {w : qWp} (h : qOk C w RX2 cX2_says 5 3 155 155) (hm : qMt C (some .boolean)) (hx : qNx C) : ∀ n : Nat, qSnd C w 5 155 (qQf C w 155 155 jI) qfin 155 5 (wX2_says_4 (fX2_says_4 n))
  | 0 => qSnd_of0 (fun lo st m x hr0 => by
    unfold wX2_says_4 at hr0
    split at hr0
    · cases hr0
    · cases hr0)
  | n + 1 => by
    have ih := bX2_says_4 h hm hx n
    exact qSnd_of (fun lo st m x hr0 => by
    unfold wX2_says_4 at hr0
    split at hr0
    · exact ⟨_, (qsub_e (qsub_e (qsub_e (qsub_e (qsub_e qsub_nil))))), (lX2_says_4 n _ _ _ _).trans hr0⟩
    · cases hr0) (sX2_says_4 h hm hx (bX2_says_34 h hm hx ih) (bX2_says_30 h hm hx ih))
noncomputable def tX2_says_0 (j4 : qT (Int32 × qM)) : qT (Int32 × qM) :=
  oC (.int (0 : Int32)) (oSi 3 (oC (.int (0 : Int32)) (oSi 4 (j4))))
set_option maxRecDepth 20000 in
theorem sX2_says_0 {C : qCx} {w : qWp} (h : qOk C w RX2 cX2_says 5 3 155 155) (hm : qMt C (some .boolean)) (hx : qNx C) {j4 : qT (Int32 × qM)} (k4 : qSnd C w 5 155 (qQf C w 155 155 jI) qfin 155 5 j4) : qSnd C w 5 155 (qQf C w 155 155 jI) qfin 155 0 (tX2_says_0 j4) :=
  cC (pc := 0) h dX2_says_0 rfl (cSi (pc := 1) h dX2_says_1 rfl (cC (pc := 2) h dX2_says_2 rfl (cSI (pc := 3) h dX2_says_3 (k4))))
set_option maxRecDepth 20000 in
theorem lX2_says_0 (a1 : Int32) (m : qM) : tX2_says_0 (wX2_says_4 (fX2_says_4 FU)) [some (.ref 93), some (.int a1), some (.ref 1), none, none] [] m = fX2_says_0 a1 m := rfl
noncomputable def GX2_says : qG Int32 := fun av m => match av with
  | [.ref 93, .int a1, .ref 1] => fX2_says a1 m
  | _ => none
theorem spX2_says : qSpI yX2_says (.code yX2_says cX2_says 5 (some .boolean)) 3 qfin 155 155 1 GX2_says := by
  intro av m x m' hG
  unfold GX2_says at hG
  split at hG
  · rename_i a1
    rw [fX2_says_d] at hG
    exact ⟨qmeet (J := jI) (r := (x, m')) (av := [.ref 93, .int a1, .ref 1]) (by decide +kernel) (Nat.le_of_ble_eq_true rfl) (fun C w h hm hx hn => sX2_says_0 h hm hx (bX2_says_4 h hm hx FU)) ((lX2_says_0 _ _).trans hG) (Nat.le_of_ble_eq_true rfl), Or.inl ⟨93, _, 2, _, _, rfl, by decide, rfl, qCk_2, rfl⟩⟩
  · cases hG
theorem im_X2_isWord : Jvm.Cond.static yX2_isWord ∈ qTw := qm6 (List.mem_of_getElem? (i := 101) (by decide +kernel)) (by decide +kernel)
theorem co_X2_isWord : Jvm.Cond.code yX2_isWord cX2_isWord 2 (some .boolean) ∈ qTw := qm6 (List.mem_of_getElem? (i := 102) (by decide +kernel)) (by decide +kernel)
theorem yk_X2_isWord : qYk yX2_isWord 1 := ⟨⟨by decide +kernel, by decide +kernel⟩, by decide +kernel⟩
theorem ml_X2_61 : Jvm.Cond.methodLink RX2 61 yX2_isWord ∈ qTw := qm6 (List.mem_of_getElem? (i := 100) (by decide +kernel)) (by decide +kernel)
theorem kd_X2_61 {C : qCx} {w : qWp} {cc : ByteArray} {nL dp n0 n1 pc : Nat} (h : qOk C w RX2 cc nL dp n0 n1) (d : decode cc pc = .ok (.invokestatic 61, 3)) : qCallOk C w nL dp n0 n1 pc 1 0 yX2_isWord (.code yX2_isWord cX2_isWord 2 (some .boolean)) := kindS h d ml_X2_61 im_X2_isWord in_ParentEve_Notes co_X2_isWord yk_X2_isWord (by decide)
theorem ml_X2_64 : Jvm.Cond.methodLink RX2 64 yX4_asks ∈ qTw := qm6 (List.mem_of_getElem? (i := 109) (by decide +kernel)) (by decide +kernel)
theorem kd_X2_64 {C : qCx} {w : qWp} {cc : ByteArray} {nL dp n0 n1 pc : Nat} (h : qOk C w RX2 cc nL dp n0 n1) (d : decode cc pc = .ok (.invokevirtual 64, 3)) : qCallOk C w nL dp n0 n1 pc 1 1 yX4_asks (.code yX4_asks cX4_asks 1 (some .int)) := kindV h d ml_X2_64 im_X4_asks se_X4_asks in_ParentEve_Plan co_X4_asks yk_X4_asks (by decide)
theorem im_X2_mayRead : Jvm.Cond.instanceMethod yX2_mayRead ∈ qTw := qm6 (List.mem_of_getElem? (i := 84) (by decide +kernel)) (by decide +kernel)
theorem se_X2_mayRead : Jvm.Cond.selects yX2_mayRead.cls yX2_mayRead yX2_mayRead ∈ qTw := qm6 (List.mem_of_getElem? (i := 85) (by decide +kernel)) (by decide +kernel)
theorem co_X2_mayRead : Jvm.Cond.code yX2_mayRead cX2_mayRead 3 (some .boolean) ∈ qTw := qm6 (List.mem_of_getElem? (i := 86) (by decide +kernel)) (by decide +kernel)
theorem yk_X2_mayRead : qYk yX2_mayRead 2 := ⟨⟨by decide +kernel, by decide +kernel⟩, by decide +kernel⟩
theorem ml_X2_67 : Jvm.Cond.methodLink RX2 67 yX2_mayRead ∈ qTw := qm6 (List.mem_of_getElem? (i := 110) (by decide +kernel)) (by decide +kernel)
theorem kd_X2_67 {C : qCx} {w : qWp} {cc : ByteArray} {nL dp n0 n1 pc : Nat} (h : qOk C w RX2 cc nL dp n0 n1) (d : decode cc pc = .ok (.invokevirtual 67, 3)) : qCallOk C w nL dp n0 n1 pc 3 1 yX2_mayRead (.code yX2_mayRead cX2_mayRead 3 (some .boolean)) := kindV h d ml_X2_67 im_X2_mayRead se_X2_mayRead in_ParentEve_Notes co_X2_mayRead yk_X2_mayRead (by decide)
theorem im_X2_says : Jvm.Cond.instanceMethod yX2_says ∈ qTw := qm6 (List.mem_of_getElem? (i := 113) (by decide +kernel)) (by decide +kernel)
theorem se_X2_says : Jvm.Cond.selects yX2_says.cls yX2_says yX2_says ∈ qTw := List.mem_filter.mpr ⟨List.mem_append_left _ (List.mem_of_getElem? (i := 33) (by decide +kernel)), rfl⟩
theorem co_X2_says : Jvm.Cond.code yX2_says cX2_says 5 (some .boolean) ∈ qTw := qm6 (List.mem_of_getElem? (i := 114) (by decide +kernel)) (by decide +kernel)
theorem yk_X2_says : qYk yX2_says 2 := ⟨⟨by decide +kernel, by decide +kernel⟩, by decide +kernel⟩
theorem ml_X2_70 : Jvm.Cond.methodLink RX2 70 yX2_says ∈ qTw := qm6 (List.mem_of_getElem? (i := 111) (by decide +kernel)) (by decide +kernel)
theorem kd_X2_70 {C : qCx} {w : qWp} {cc : ByteArray} {nL dp n0 n1 pc : Nat} (h : qOk C w RX2 cc nL dp n0 n1) (d : decode cc pc = .ok (.invokevirtual 70, 3)) : qCallOk C w nL dp n0 n1 pc 3 1 yX2_says (.code yX2_says cX2_says 5 (some .boolean)) := kindV h d ml_X2_70 im_X2_says se_X2_says in_ParentEve_Notes co_X2_says yk_X2_says (by decide)
theorem dX2_search_0 : decode cX2_search 0 = .ok (.aload_n 2, 1) := by decide +kernel
theorem dX2_search_1 : decode cX2_search 1 = .ok (.invokestatic 61, 3) := by decide +kernel
theorem dX2_search_4 : decode cX2_search 4 = .ok (.ifCond .ne 5, 3) := by decide +kernel
theorem dX2_search_7 : decode cX2_search 7 = .ok (.iconst (-1), 1) := by decide +kernel
theorem dX2_search_8 : decode cX2_search 8 = .ok (.ireturn, 1) := by decide +kernel
theorem dX2_search_9 : decode cX2_search 9 = .ok (.aload_n 0, 1) := by decide +kernel
theorem dX2_search_10 : decode cX2_search 10 = .ok (.iconst 0, 1) := by decide +kernel
theorem dX2_search_11 : decode cX2_search 11 = .ok (.putfield 24, 3) := by decide +kernel
theorem dX2_search_14 : decode cX2_search 14 = .ok (.iconst 0, 1) := by decide +kernel
theorem dX2_search_15 : decode cX2_search 15 = .ok (.istore_n 3, 1) := by decide +kernel
theorem dX2_search_16 : decode cX2_search 16 = .ok (.iload_n 3, 1) := by decide +kernel
theorem dX2_search_17 : decode cX2_search 17 = .ok (.aload_n 0, 1) := by decide +kernel
theorem dX2_search_18 : decode cX2_search 18 = .ok (.getfield 31, 3) := by decide +kernel
theorem dX2_search_21 : decode cX2_search 21 = .ok (.invokevirtual 64, 3) := by decide +kernel
theorem dX2_search_24 : decode cX2_search 24 = .ok (.if_icmp .ge 56, 3) := by decide +kernel
theorem dX2_search_27 : decode cX2_search 27 = .ok (.aload_n 0, 1) := by decide +kernel
theorem dX2_search_28 : decode cX2_search 28 = .ok (.getfield 15, 3) := by decide +kernel
theorem dX2_search_31 : decode cX2_search 31 = .ok (.iload_n 3, 1) := by decide +kernel
theorem dX2_search_32 : decode cX2_search 32 = .ok (.iaload, 1) := by decide +kernel
theorem dX2_search_33 : decode cX2_search 33 = .ok (.ifCond .le 41, 3) := by decide +kernel
theorem dX2_search_36 : decode cX2_search 36 = .ok (.aload_n 0, 1) := by decide +kernel
theorem dX2_search_37 : decode cX2_search 37 = .ok (.iload_n 1, 1) := by decide +kernel
theorem dX2_search_38 : decode cX2_search 38 = .ok (.iload_n 3, 1) := by decide +kernel
theorem dX2_search_39 : decode cX2_search 39 = .ok (.invokevirtual 67, 3) := by decide +kernel
theorem dX2_search_42 : decode cX2_search 42 = .ok (.ifCond .eq 32, 3) := by decide +kernel
theorem dX2_search_45 : decode cX2_search 45 = .ok (.aload_n 0, 1) := by decide +kernel
theorem dX2_search_46 : decode cX2_search 46 = .ok (.iload_n 3, 1) := by decide +kernel
theorem dX2_search_47 : decode cX2_search 47 = .ok (.aload_n 2, 1) := by decide +kernel
theorem dX2_search_48 : decode cX2_search 48 = .ok (.invokevirtual 70, 3) := by decide +kernel
theorem dX2_search_51 : decode cX2_search 51 = .ok (.ifCond .eq 23, 3) := by decide +kernel
theorem dX2_search_54 : decode cX2_search 54 = .ok (.aload_n 0, 1) := by decide +kernel
theorem dX2_search_55 : decode cX2_search 55 = .ok (.getfield 21, 3) := by decide +kernel
theorem dX2_search_58 : decode cX2_search 58 = .ok (.aload_n 0, 1) := by decide +kernel
theorem dX2_search_59 : decode cX2_search 59 = .ok (.getfield 24, 3) := by decide +kernel
theorem dX2_search_62 : decode cX2_search 62 = .ok (.iload_n 3, 1) := by decide +kernel
theorem dX2_search_63 : decode cX2_search 63 = .ok (.iastore, 1) := by decide +kernel
theorem dX2_search_64 : decode cX2_search 64 = .ok (.aload_n 0, 1) := by decide +kernel
theorem dX2_search_65 : decode cX2_search 65 = .ok (.dup, 1) := by decide +kernel
theorem dX2_search_66 : decode cX2_search 66 = .ok (.getfield 24, 3) := by decide +kernel
theorem dX2_search_69 : decode cX2_search 69 = .ok (.iconst 1, 1) := by decide +kernel
theorem dX2_search_70 : decode cX2_search 70 = .ok (.iadd, 1) := by decide +kernel
theorem dX2_search_71 : decode cX2_search 71 = .ok (.putfield 24, 3) := by decide +kernel
theorem dX2_search_74 : decode cX2_search 74 = .ok (.iinc 3 1, 3) := by decide +kernel
theorem dX2_search_77 : decode cX2_search 77 = .ok (.goto (-61), 3) := by decide +kernel
theorem dX2_search_80 : decode cX2_search 80 = .ok (.aload_n 0, 1) := by decide +kernel
theorem dX2_search_81 : decode cX2_search 81 = .ok (.getfield 24, 3) := by decide +kernel
theorem dX2_search_84 : decode cX2_search 84 = .ok (.ireturn, 1) := by decide +kernel
noncomputable def tX2_search_42 (j10 : qT (Int32 × qM)) : qT (Int32 × qM) :=
  oInc 3 (1 : Int32) (j10)
noncomputable def wX2_search_42 (k : Int32 → Int32 → qM → Option (Int32 × qM)) : qT (Int32 × qM) := fun lo st m => match lo, st with
  | [some (.ref 93), some (.int a1), some (.ref 1), some (.int a3)], [] => k a1 a3 m
  | _, _ => none
noncomputable def wX2_search_10 (k : Int32 → Int32 → qM → Option (Int32 × qM)) : qT (Int32 × qM) := fun lo st m => match lo, st with
  | [some (.ref 93), some (.int a1), some (.ref 1), some (.int a3)], [] => k a1 a3 m
  | _, _ => none
set_option maxRecDepth 20000 in
theorem sX2_search_42 {C : qCx} {w : qWp} (h : qOk C w RX2 cX2_search 4 4 155 155) (hm : qMt C (some .int)) (hx : qNx C) {j10 : qT (Int32 × qM)} (k10 : qSnd C w 4 155 (qQf C w 155 155 jI) qfin 155 16 j10) : qSnd C w 4 155 (qQf C w 155 155 jI) qfin 155 74 (tX2_search_42 j10) :=
  cInc (pc := 74) h dX2_search_74 rfl (jGo (pc := 77) h dX2_search_77 rfl (k10))
set_option maxRecDepth 20000 in
theorem lX2_search_42 (k10 : Int32 → Int32 → qM → Option (Int32 × qM)) (a1 : Int32) (a3 : Int32) (m : qM) : tX2_search_42 (wX2_search_10 k10) [some (.ref 93), some (.int a1), some (.ref 1), some (.int a3)] [] m = fX2_search_42 k10 a1 a3 m := rfl
theorem bX2_search_42 {C : qCx} {w : qWp} (h : qOk C w RX2 cX2_search 4 4 155 155) (hm : qMt C (some .int)) (hx : qNx C) {k10 : Int32 → Int32 → qM → Option (Int32 × qM)} (h10 : qSnd C w 4 155 (qQf C w 155 155 jI) qfin 155 16 (wX2_search_10 k10)) : qSnd C w 4 155 (qQf C w 155 155 jI) qfin 155 74 (wX2_search_42 (fX2_search_42 k10)) :=
  qSnd_of (fun lo st m x hr0 => by
    unfold wX2_search_42 at hr0
    split at hr0
    · exact ⟨_, (qsub_e (qsub_e (qsub_e (qsub_e qsub_nil)))), (lX2_search_42 _ _ _ _).trans hr0⟩
    · cases hr0) (sX2_search_42 h hm hx h10)
noncomputable def tX2_search_10 (j42 : qT (Int32 × qM)) : qT (Int32 × qM) :=
  oLi 3 (oLa 0 (oGf 93 0 58 (oCi GX4_asks 1 (oCGe (oLa 0 (oGi 93 5 (eI))) (oLa 0 (oGf 93 2 95 (oLi 3 (oAi 95 40 (oLe (j42) (oLa 0 (oLi 1 (oLi 3 (oCi GX2_mayRead 3 (oEq (j42) (oLa 0 (oLi 3 (oLa 2 (oCi GX2_says 3 (oEq (j42) (oLa 0 (oGf 93 4 97 (oLa 0 (oGi 93 5 (oLi 3 (oWi 97 40 (oLa 0 (oDup (oGi 93 5 (oC (.int (1 : Int32)) (o2 (· + ·) (oPi 93 5 (j42))))))))))))))))))))))))))))))))
set_option maxRecDepth 20000 in
theorem sX2_search_10 {C : qCx} {w : qWp} (h : qOk C w RX2 cX2_search 4 4 155 155) (hm : qMt C (some .int)) (hx : qNx C) {j42 : qT (Int32 × qM)} (k42 : qSnd C w 4 155 (qQf C w 155 155 jI) qfin 155 74 j42) : qSnd C w 4 155 (qQf C w 155 155 jI) qfin 155 16 (tX2_search_10 j42) :=
  cLi (pc := 16) h dX2_search_16 rfl (cLa (pc := 17) h dX2_search_17 rfl (gGf (pc := 18) h dX2_search_18 ff_X2_31_93 (Nat.le_of_ble_eq_true rfl) (Nat.le_of_ble_eq_true rfl) rfl (kCi (pc := 21) h (kd_X2_64 h dX2_search_21) spX4_asks (by decide) (by decide) (by decide) (by decide) (jCGe (pc := 24) h dX2_search_24 rfl (cLa (pc := 80) h dX2_search_80 rfl (gGi (pc := 81) h dX2_search_81 ff_X2_24_93 (Nat.le_of_ble_eq_true rfl) (Nat.le_of_ble_eq_true rfl) (zI (pc := 84) h hm (Nat.le_refl _) dX2_search_84))) (cLa (pc := 27) h dX2_search_27 rfl (gGf (pc := 28) h dX2_search_28 ff_X2_15_93 (Nat.le_of_ble_eq_true rfl) (Nat.le_of_ble_eq_true rfl) rfl (cLi (pc := 31) h dX2_search_31 rfl (rAi (pc := 32) h dX2_search_32 rfl (Nat.le_of_ble_eq_true rfl) (Nat.le_of_ble_eq_true rfl) (jLe (pc := 33) h dX2_search_33 rfl (k42) (cLa (pc := 36) h dX2_search_36 rfl (cLi (pc := 37) h dX2_search_37 rfl (cLi (pc := 38) h dX2_search_38 rfl (kCi (pc := 39) h (kd_X2_67 h dX2_search_39) spX2_mayRead (by decide) (by decide) (by decide) (by decide) (jEq (pc := 42) h dX2_search_42 rfl (k42) (cLa (pc := 45) h dX2_search_45 rfl (cLi (pc := 46) h dX2_search_46 rfl (cLa (pc := 47) h dX2_search_47 rfl (kCi (pc := 48) h (kd_X2_70 h dX2_search_48) spX2_says (by decide) (by decide) (by decide) (by decide) (jEq (pc := 51) h dX2_search_51 rfl (k42) (cLa (pc := 54) h dX2_search_54 rfl (gGf (pc := 55) h dX2_search_55 ff_X2_21_93 (Nat.le_of_ble_eq_true rfl) (Nat.le_of_ble_eq_true rfl) rfl (cLa (pc := 58) h dX2_search_58 rfl (gGi (pc := 59) h dX2_search_59 ff_X2_24_93 (Nat.le_of_ble_eq_true rfl) (Nat.le_of_ble_eq_true rfl) (cLi (pc := 62) h dX2_search_62 rfl (rWi (pc := 63) h dX2_search_63 rfl (Nat.le_of_ble_eq_true rfl) (Nat.le_of_ble_eq_true rfl) (cLa (pc := 64) h dX2_search_64 rfl (aDup (pc := 65) h dX2_search_65 (gGi (pc := 66) h dX2_search_66 ff_X2_24_93 (Nat.le_of_ble_eq_true rfl) (Nat.le_of_ble_eq_true rfl) (cC (pc := 69) h dX2_search_69 rfl (aAdd (pc := 70) h dX2_search_70 (gPi (pc := 71) h dX2_search_71 ff_X2_24_93 (Or.inl rfl) (Nat.le_of_ble_eq_true rfl) (Nat.le_of_ble_eq_true rfl) (k42))))))))))))))))))))))))))))))))
set_option maxRecDepth 20000 in
theorem lX2_search_10 (n : Nat) (a1 : Int32) (a3 : Int32) (m : qM) : tX2_search_10 (wX2_search_42 (fX2_search_42 (fX2_search_10 n))) [some (.ref 93), some (.int a1), some (.ref 1), some (.int a3)] [] m = fX2_search_10 (n + 1) a1 a3 m := rfl
theorem bX2_search_10 {C : qCx} {w : qWp} (h : qOk C w RX2 cX2_search 4 4 155 155) (hm : qMt C (some .int)) (hx : qNx C) : ∀ n : Nat, qSnd C w 4 155 (qQf C w 155 155 jI) qfin 155 16 (wX2_search_10 (fX2_search_10 n))
  | 0 => qSnd_of0 (fun lo st m x hr0 => by
    unfold wX2_search_10 at hr0
    split at hr0
    · cases hr0
    · cases hr0)
  | n + 1 => by
    have ih := bX2_search_10 h hm hx n
    exact qSnd_of (fun lo st m x hr0 => by
    unfold wX2_search_10 at hr0
    split at hr0
    · exact ⟨_, (qsub_e (qsub_e (qsub_e (qsub_e qsub_nil)))), (lX2_search_10 n _ _ _).trans hr0⟩
    · cases hr0) (sX2_search_10 h hm hx (bX2_search_42 h hm hx ih))
noncomputable def tX2_search_0 (j10 : qT (Int32 × qM)) : qT (Int32 × qM) :=
  oLa 2 (oCi GX2_isWord 1 (oEq (oC (.int (-1 : Int32)) (eI)) (oLa 0 (oC (.int (0 : Int32)) (oPi 93 5 (oC (.int (0 : Int32)) (oSi 3 (j10))))))))
set_option maxRecDepth 20000 in
theorem sX2_search_0 {C : qCx} {w : qWp} (h : qOk C w RX2 cX2_search 4 4 155 155) (hm : qMt C (some .int)) (hx : qNx C) {j10 : qT (Int32 × qM)} (k10 : qSnd C w 4 155 (qQf C w 155 155 jI) qfin 155 16 j10) : qSnd C w 4 155 (qQf C w 155 155 jI) qfin 155 0 (tX2_search_0 j10) :=
  cLa (pc := 0) h dX2_search_0 rfl (kCi (pc := 1) h (kd_X2_61 h dX2_search_1) spX2_isWord (by decide) (by decide) (by decide) (by decide) (jNe (pc := 4) h dX2_search_4 rfl (cLa (pc := 9) h dX2_search_9 rfl (cC (pc := 10) h dX2_search_10 rfl (gPi (pc := 11) h dX2_search_11 ff_X2_24_93 (Or.inl rfl) (Nat.le_of_ble_eq_true rfl) (Nat.le_of_ble_eq_true rfl) (cC (pc := 14) h dX2_search_14 rfl (cSi (pc := 15) h dX2_search_15 rfl (k10)))))) (cC (pc := 7) h dX2_search_7 rfl (zI (pc := 8) h hm (Nat.le_refl _) dX2_search_8))))
set_option maxRecDepth 20000 in
theorem lX2_search_0 (a1 : Int32) (m : qM) : tX2_search_0 (wX2_search_10 (fX2_search_10 FU)) [some (.ref 93), some (.int a1), some (.ref 1), none] [] m = fX2_search_0 a1 m := rfl
noncomputable def GX2_search : qG Int32 := fun av m => match av with
  | [.ref 93, .int a1, .ref 1] => fX2_search a1 m
  | _ => none
theorem spX2_search : qSpI yX2_search (.code yX2_search cX2_search 4 (some .int)) 4 qfin 155 155 1 GX2_search := by
  intro av m x m' hG
  unfold GX2_search at hG
  split at hG
  · rename_i a1
    rw [fX2_search_d] at hG
    exact ⟨qmeet (J := jI) (r := (x, m')) (av := [.ref 93, .int a1, .ref 1]) (by decide +kernel) (Nat.le_of_ble_eq_true rfl) (fun C w h hm hx hn => sX2_search_0 h hm hx (bX2_search_10 h hm hx FU)) ((lX2_search_0 _ _).trans hG) (Nat.le_of_ble_eq_true rfl), Or.inl ⟨93, _, 2, _, _, rfl, by decide, rfl, qCk_2, rfl⟩⟩
  · cases hG
theorem dX2_foundAt_0 : decode cX2_foundAt 0 = .ok (.iload_n 1, 1) := by decide +kernel
theorem dX2_foundAt_1 : decode cX2_foundAt 1 = .ok (.ifCond .lt 20, 3) := by decide +kernel
theorem dX2_foundAt_4 : decode cX2_foundAt 4 = .ok (.iload_n 1, 1) := by decide +kernel
theorem dX2_foundAt_5 : decode cX2_foundAt 5 = .ok (.aload_n 0, 1) := by decide +kernel
theorem dX2_foundAt_6 : decode cX2_foundAt 6 = .ok (.getfield 24, 3) := by decide +kernel
theorem dX2_foundAt_9 : decode cX2_foundAt 9 = .ok (.if_icmp .ge 12, 3) := by decide +kernel
theorem dX2_foundAt_12 : decode cX2_foundAt 12 = .ok (.aload_n 0, 1) := by decide +kernel
theorem dX2_foundAt_13 : decode cX2_foundAt 13 = .ok (.getfield 21, 3) := by decide +kernel
theorem dX2_foundAt_16 : decode cX2_foundAt 16 = .ok (.iload_n 1, 1) := by decide +kernel
theorem dX2_foundAt_17 : decode cX2_foundAt 17 = .ok (.iaload, 1) := by decide +kernel
theorem dX2_foundAt_18 : decode cX2_foundAt 18 = .ok (.goto 4, 3) := by decide +kernel
theorem dX2_foundAt_21 : decode cX2_foundAt 21 = .ok (.iconst (-1), 1) := by decide +kernel
theorem dX2_foundAt_22 : decode cX2_foundAt 22 = .ok (.ireturn, 1) := by decide +kernel
noncomputable def tX2_foundAt_12 : qT (Int32 × qM) :=
  eI
noncomputable def wX2_foundAt_12 (k : Int32 → qM → Option (Int32 × qM)) : qT (Int32 × qM) := fun lo st m => match lo, st with
  | [_, _], [.int s0] => k s0 m
  | _, _ => none
set_option maxRecDepth 20000 in
theorem sX2_foundAt_12 {C : qCx} {w : qWp} (h : qOk C w RX2 cX2_foundAt 2 0 155 155) (hm : qMt C (some .int)) (hx : qNx C) : qSnd C w 2 155 (qQf C w 155 155 jI) qfin 155 22 (tX2_foundAt_12) :=
  zI (pc := 22) h hm (Nat.le_refl _) dX2_foundAt_22
set_option maxRecDepth 20000 in
theorem lX2_foundAt_12 (s0 : Int32) (m : qM) : tX2_foundAt_12 [none, none] [(.int s0)] m = fX2_foundAt_12 s0 m := rfl
theorem bX2_foundAt_12 {C : qCx} {w : qWp} (h : qOk C w RX2 cX2_foundAt 2 0 155 155) (hm : qMt C (some .int)) (hx : qNx C) : qSnd C w 2 155 (qQf C w 155 155 jI) qfin 155 22 (wX2_foundAt_12 fX2_foundAt_12) :=
  qSnd_of (fun lo st m x hr0 => by
    unfold wX2_foundAt_12 at hr0
    split at hr0
    · exact ⟨_, (qsub_n (qsub_n qsub_nil)), (lX2_foundAt_12 _ _).trans hr0⟩
    · cases hr0) (sX2_foundAt_12 h hm hx)
noncomputable def tX2_foundAt_11 (j12 : qT (Int32 × qM)) : qT (Int32 × qM) :=
  oC (.int (-1 : Int32)) (j12)
noncomputable def wX2_foundAt_11 (k : qM → Option (Int32 × qM)) : qT (Int32 × qM) := fun lo st m => match lo, st with
  | [_, _], [] => k m
  | _, _ => none
set_option maxRecDepth 20000 in
theorem sX2_foundAt_11 {C : qCx} {w : qWp} (h : qOk C w RX2 cX2_foundAt 2 0 155 155) (hm : qMt C (some .int)) (hx : qNx C) {j12 : qT (Int32 × qM)} (k12 : qSnd C w 2 155 (qQf C w 155 155 jI) qfin 155 22 j12) : qSnd C w 2 155 (qQf C w 155 155 jI) qfin 155 21 (tX2_foundAt_11 j12) :=
  cC (pc := 21) h dX2_foundAt_21 rfl (k12)
set_option maxRecDepth 20000 in
theorem lX2_foundAt_11 (m : qM) : tX2_foundAt_11 (wX2_foundAt_12 fX2_foundAt_12) [none, none] [] m = fX2_foundAt_11 m := rfl
theorem bX2_foundAt_11 {C : qCx} {w : qWp} (h : qOk C w RX2 cX2_foundAt 2 0 155 155) (hm : qMt C (some .int)) (hx : qNx C) : qSnd C w 2 155 (qQf C w 155 155 jI) qfin 155 21 (wX2_foundAt_11 fX2_foundAt_11) :=
  qSnd_of (fun lo st m x hr0 => by
    unfold wX2_foundAt_11 at hr0
    split at hr0
    · exact ⟨_, (qsub_n (qsub_n qsub_nil)), (lX2_foundAt_11 _).trans hr0⟩
    · cases hr0) (sX2_foundAt_11 h hm hx (bX2_foundAt_12 h hm hx))
noncomputable def tX2_foundAt_0 (j11 : qT (Int32 × qM)) (j12 : qT (Int32 × qM)) : qT (Int32 × qM) :=
  oLi 1 (oLt (j11) (oLi 1 (oLa 0 (oGi 93 5 (oCGe (j11) (oLa 0 (oGf 93 4 97 (oLi 1 (oAi 97 40 (j12))))))))))
set_option maxRecDepth 20000 in
theorem sX2_foundAt_0 {C : qCx} {w : qWp} (h : qOk C w RX2 cX2_foundAt 2 0 155 155) (hm : qMt C (some .int)) (hx : qNx C) {j11 : qT (Int32 × qM)} {j12 : qT (Int32 × qM)} (k11 : qSnd C w 2 155 (qQf C w 155 155 jI) qfin 155 21 j11) (k12 : qSnd C w 2 155 (qQf C w 155 155 jI) qfin 155 22 j12) : qSnd C w 2 155 (qQf C w 155 155 jI) qfin 155 0 (tX2_foundAt_0 j11 j12) :=
  cLi (pc := 0) h dX2_foundAt_0 rfl (jLt (pc := 1) h dX2_foundAt_1 rfl (k11) (cLi (pc := 4) h dX2_foundAt_4 rfl (cLa (pc := 5) h dX2_foundAt_5 rfl (gGi (pc := 6) h dX2_foundAt_6 ff_X2_24_93 (Nat.le_of_ble_eq_true rfl) (Nat.le_of_ble_eq_true rfl) (jCGe (pc := 9) h dX2_foundAt_9 rfl (k11) (cLa (pc := 12) h dX2_foundAt_12 rfl (gGf (pc := 13) h dX2_foundAt_13 ff_X2_21_93 (Nat.le_of_ble_eq_true rfl) (Nat.le_of_ble_eq_true rfl) rfl (cLi (pc := 16) h dX2_foundAt_16 rfl (rAi (pc := 17) h dX2_foundAt_17 rfl (Nat.le_of_ble_eq_true rfl) (Nat.le_of_ble_eq_true rfl) (jGo (pc := 18) h dX2_foundAt_18 rfl (k12)))))))))))
set_option maxRecDepth 20000 in
theorem lX2_foundAt_0 (a1 : Int32) (m : qM) : tX2_foundAt_0 (wX2_foundAt_11 fX2_foundAt_11) (wX2_foundAt_12 fX2_foundAt_12) [some (.ref 93), some (.int a1)] [] m = fX2_foundAt_0 a1 m := rfl
noncomputable def GX2_foundAt : qG Int32 := fun av m => match av with
  | [.ref 93, .int a1] => fX2_foundAt a1 m
  | _ => none
theorem spX2_foundAt : qSpI yX2_foundAt (.code yX2_foundAt cX2_foundAt 2 (some .int)) 0 qfin 155 155 1 GX2_foundAt := by
  intro av m x m' hG
  unfold GX2_foundAt at hG
  split at hG
  · rename_i a1
    rw [fX2_foundAt_d] at hG
    exact ⟨qmeet (J := jI) (r := (x, m')) (av := [.ref 93, .int a1]) (by decide +kernel) (Nat.le_of_ble_eq_true rfl) (fun C w h hm hx hn => sX2_foundAt_0 h hm hx (bX2_foundAt_11 h hm hx) (bX2_foundAt_12 h hm hx)) ((lX2_foundAt_0 _ _).trans hG) (Nat.le_of_ble_eq_true rfl), Or.inl ⟨93, _, 2, _, _, rfl, by decide, rfl, qCk_2, rfl⟩⟩
  · cases hG
theorem ml_X3_50 : Jvm.Cond.methodLink RX3 50 yX7_slotMinutes ∈ qTw := qm3 (List.mem_of_getElem? (i := 116) (by decide +kernel)) (by decide +kernel)
theorem kd_X3_50 {C : qCx} {w : qWp} {cc : ByteArray} {nL dp n0 n1 pc : Nat} (h : qOk C w RX3 cc nL dp n0 n1) (d : decode cc pc = .ok (.invokevirtual 50, 3)) : qCallOk C w nL dp n0 n1 pc 1 1 yX7_slotMinutes (.code yX7_slotMinutes cX7_slotMinutes 1 (some .int)) := kindV h d ml_X3_50 im_X7_slotMinutes se_X7_slotMinutes in_ParentEve_Rules co_X7_slotMinutes yk_X7_slotMinutes (by decide)
theorem ml_X3_56 : Jvm.Cond.methodLink RX3 56 yX7_told ∈ qTw := qm3 (List.mem_of_getElem? (i := 120) (by decide +kernel)) (by decide +kernel)
theorem kd_X3_56 {C : qCx} {w : qWp} {cc : ByteArray} {nL dp n0 n1 pc : Nat} (h : qOk C w RX3 cc nL dp n0 n1) (d : decode cc pc = .ok (.invokevirtual 56, 3)) : qCallOk C w nL dp n0 n1 pc 2 1 yX7_told (.code yX7_told cX7_told 2 (some .int)) := kindV h d ml_X3_56 im_X7_told se_X7_told in_ParentEve_Rules co_X7_told yk_X7_told (by decide)
theorem ml_X3_60 : Jvm.Cond.methodLink RX3 60 yJ9_abs_0f7a4 ∈ qTw := qm3 (List.mem_of_getElem? (i := 124) (by decide +kernel)) (by decide +kernel)
theorem kd_X3_60 {C : qCx} {w : qWp} {cc : ByteArray} {nL dp n0 n1 pc : Nat} (h : qOk C w RX3 cc nL dp n0 n1) (d : decode cc pc = .ok (.invokestatic 60, 3)) : qCallOk C w nL dp n0 n1 pc 1 0 yJ9_abs_0f7a4 (.code yJ9_abs_0f7a4 cJ9_abs_0f7a4 1 (some .int)) := kindS h d ml_X3_60 im_J9_abs_0f7a4 in_java_lang_Math co_J9_abs_0f7a4 yk_J9_abs_0f7a4 (by decide)
theorem dX3_measureWalks_0 : decode cX3_measureWalks 0 = .ok (.aload_n 0, 1) := by decide +kernel
theorem dX3_measureWalks_1 : decode cX3_measureWalks 1 = .ok (.getfield 42, 3) := by decide +kernel
theorem dX3_measureWalks_4 : decode cX3_measureWalks 4 = .ok (.invokevirtual 50, 3) := by decide +kernel
theorem dX3_measureWalks_7 : decode cX3_measureWalks 7 = .ok (.istore_n 1, 1) := by decide +kernel
theorem dX3_measureWalks_8 : decode cX3_measureWalks 8 = .ok (.iconst 0, 1) := by decide +kernel
theorem dX3_measureWalks_9 : decode cX3_measureWalks 9 = .ok (.istore_n 2, 1) := by decide +kernel
theorem dX3_measureWalks_10 : decode cX3_measureWalks 10 = .ok (.iload_n 2, 1) := by decide +kernel
theorem dX3_measureWalks_11 : decode cX3_measureWalks 11 = .ok (.bipush 10, 2) := by decide +kernel
theorem dX3_measureWalks_13 : decode cX3_measureWalks 13 = .ok (.if_icmp .ge 141, 3) := by decide +kernel
theorem dX3_measureWalks_16 : decode cX3_measureWalks 16 = .ok (.iconst 0, 1) := by decide +kernel
theorem dX3_measureWalks_17 : decode cX3_measureWalks 17 = .ok (.istore_n 3, 1) := by decide +kernel
theorem dX3_measureWalks_18 : decode cX3_measureWalks 18 = .ok (.iload_n 3, 1) := by decide +kernel
theorem dX3_measureWalks_19 : decode cX3_measureWalks 19 = .ok (.bipush 10, 2) := by decide +kernel
theorem dX3_measureWalks_21 : decode cX3_measureWalks 21 = .ok (.if_icmp .ge 127, 3) := by decide +kernel
theorem dX3_measureWalks_24 : decode cX3_measureWalks 24 = .ok (.aload_n 0, 1) := by decide +kernel
theorem dX3_measureWalks_25 : decode cX3_measureWalks 25 = .ok (.getfield 9, 3) := by decide +kernel
theorem dX3_measureWalks_28 : decode cX3_measureWalks 28 = .ok (.iload_n 2, 1) := by decide +kernel
theorem dX3_measureWalks_29 : decode cX3_measureWalks 29 = .ok (.iaload, 1) := by decide +kernel
theorem dX3_measureWalks_30 : decode cX3_measureWalks 30 = .ok (.aload_n 0, 1) := by decide +kernel
theorem dX3_measureWalks_31 : decode cX3_measureWalks 31 = .ok (.getfield 9, 3) := by decide +kernel
theorem dX3_measureWalks_34 : decode cX3_measureWalks 34 = .ok (.iload_n 3, 1) := by decide +kernel
theorem dX3_measureWalks_35 : decode cX3_measureWalks 35 = .ok (.iaload, 1) := by decide +kernel
theorem dX3_measureWalks_36 : decode cX3_measureWalks 36 = .ok (.if_icmp .ne 18, 3) := by decide +kernel
theorem dX3_measureWalks_39 : decode cX3_measureWalks 39 = .ok (.aload_n 0, 1) := by decide +kernel
theorem dX3_measureWalks_40 : decode cX3_measureWalks 40 = .ok (.getfield 15, 3) := by decide +kernel
theorem dX3_measureWalks_43 : decode cX3_measureWalks 43 = .ok (.iload_n 2, 1) := by decide +kernel
theorem dX3_measureWalks_44 : decode cX3_measureWalks 44 = .ok (.iaload, 1) := by decide +kernel
theorem dX3_measureWalks_45 : decode cX3_measureWalks 45 = .ok (.aload_n 0, 1) := by decide +kernel
theorem dX3_measureWalks_46 : decode cX3_measureWalks 46 = .ok (.getfield 15, 3) := by decide +kernel
theorem dX3_measureWalks_49 : decode cX3_measureWalks 49 = .ok (.iload_n 3, 1) := by decide +kernel
theorem dX3_measureWalks_50 : decode cX3_measureWalks 50 = .ok (.iaload, 1) := by decide +kernel
theorem dX3_measureWalks_51 : decode cX3_measureWalks 51 = .ok (.if_icmp .eq 7, 3) := by decide +kernel
theorem dX3_measureWalks_54 : decode cX3_measureWalks 54 = .ok (.iconst 1, 1) := by decide +kernel
theorem dX3_measureWalks_55 : decode cX3_measureWalks 55 = .ok (.goto 4, 3) := by decide +kernel
theorem dX3_measureWalks_58 : decode cX3_measureWalks 58 = .ok (.iconst 0, 1) := by decide +kernel
theorem dX3_measureWalks_59 : decode cX3_measureWalks 59 = .ok (.istore 4, 2) := by decide +kernel
theorem dX3_measureWalks_61 : decode cX3_measureWalks 61 = .ok (.aload_n 0, 1) := by decide +kernel
theorem dX3_measureWalks_62 : decode cX3_measureWalks 62 = .ok (.getfield 42, 3) := by decide +kernel
theorem dX3_measureWalks_65 : decode cX3_measureWalks 65 = .ok (.iconst 1, 1) := by decide +kernel
theorem dX3_measureWalks_66 : decode cX3_measureWalks 66 = .ok (.invokevirtual 56, 3) := by decide +kernel
theorem dX3_measureWalks_69 : decode cX3_measureWalks 69 = .ok (.aload_n 0, 1) := by decide +kernel
theorem dX3_measureWalks_70 : decode cX3_measureWalks 70 = .ok (.getfield 15, 3) := by decide +kernel
theorem dX3_measureWalks_73 : decode cX3_measureWalks 73 = .ok (.iload_n 2, 1) := by decide +kernel
theorem dX3_measureWalks_74 : decode cX3_measureWalks 74 = .ok (.iaload, 1) := by decide +kernel
theorem dX3_measureWalks_75 : decode cX3_measureWalks 75 = .ok (.aload_n 0, 1) := by decide +kernel
theorem dX3_measureWalks_76 : decode cX3_measureWalks 76 = .ok (.getfield 15, 3) := by decide +kernel
theorem dX3_measureWalks_79 : decode cX3_measureWalks 79 = .ok (.iload_n 3, 1) := by decide +kernel
theorem dX3_measureWalks_80 : decode cX3_measureWalks 80 = .ok (.iaload, 1) := by decide +kernel
theorem dX3_measureWalks_81 : decode cX3_measureWalks 81 = .ok (.isub, 1) := by decide +kernel
theorem dX3_measureWalks_82 : decode cX3_measureWalks 82 = .ok (.invokestatic 60, 3) := by decide +kernel
theorem dX3_measureWalks_85 : decode cX3_measureWalks 85 = .ok (.imul, 1) := by decide +kernel
theorem dX3_measureWalks_86 : decode cX3_measureWalks 86 = .ok (.istore 5, 2) := by decide +kernel
theorem dX3_measureWalks_88 : decode cX3_measureWalks 88 = .ok (.iload 5, 2) := by decide +kernel
theorem dX3_measureWalks_90 : decode cX3_measureWalks 90 = .ok (.iload 4, 2) := by decide +kernel
theorem dX3_measureWalks_92 : decode cX3_measureWalks 92 = .ok (.ifCond .eq 14, 3) := by decide +kernel
theorem dX3_measureWalks_95 : decode cX3_measureWalks 95 = .ok (.aload_n 0, 1) := by decide +kernel
theorem dX3_measureWalks_96 : decode cX3_measureWalks 96 = .ok (.getfield 42, 3) := by decide +kernel
theorem dX3_measureWalks_99 : decode cX3_measureWalks 99 = .ok (.iconst 2, 1) := by decide +kernel
theorem dX3_measureWalks_100 : decode cX3_measureWalks 100 = .ok (.invokevirtual 56, 3) := by decide +kernel
theorem dX3_measureWalks_103 : decode cX3_measureWalks 103 = .ok (.goto 4, 3) := by decide +kernel
theorem dX3_measureWalks_106 : decode cX3_measureWalks 106 = .ok (.iconst 0, 1) := by decide +kernel
theorem dX3_measureWalks_107 : decode cX3_measureWalks 107 = .ok (.iadd, 1) := by decide +kernel
theorem dX3_measureWalks_108 : decode cX3_measureWalks 108 = .ok (.istore 6, 2) := by decide +kernel
theorem dX3_measureWalks_110 : decode cX3_measureWalks 110 = .ok (.aload_n 0, 1) := by decide +kernel
theorem dX3_measureWalks_111 : decode cX3_measureWalks 111 = .ok (.getfield 36, 3) := by decide +kernel
theorem dX3_measureWalks_114 : decode cX3_measureWalks 114 = .ok (.iload_n 2, 1) := by decide +kernel
theorem dX3_measureWalks_115 : decode cX3_measureWalks 115 = .ok (.bipush 10, 2) := by decide +kernel
theorem dX3_measureWalks_117 : decode cX3_measureWalks 117 = .ok (.imul, 1) := by decide +kernel
theorem dX3_measureWalks_118 : decode cX3_measureWalks 118 = .ok (.iload_n 3, 1) := by decide +kernel
theorem dX3_measureWalks_119 : decode cX3_measureWalks 119 = .ok (.iadd, 1) := by decide +kernel
theorem dX3_measureWalks_120 : decode cX3_measureWalks 120 = .ok (.iload 6, 2) := by decide +kernel
theorem dX3_measureWalks_122 : decode cX3_measureWalks 122 = .ok (.iastore, 1) := by decide +kernel
theorem dX3_measureWalks_123 : decode cX3_measureWalks 123 = .ok (.aload_n 0, 1) := by decide +kernel
theorem dX3_measureWalks_124 : decode cX3_measureWalks 124 = .ok (.getfield 39, 3) := by decide +kernel
theorem dX3_measureWalks_127 : decode cX3_measureWalks 127 = .ok (.iload_n 2, 1) := by decide +kernel
theorem dX3_measureWalks_128 : decode cX3_measureWalks 128 = .ok (.bipush 10, 2) := by decide +kernel
theorem dX3_measureWalks_130 : decode cX3_measureWalks 130 = .ok (.imul, 1) := by decide +kernel
theorem dX3_measureWalks_131 : decode cX3_measureWalks 131 = .ok (.iload_n 3, 1) := by decide +kernel
theorem dX3_measureWalks_132 : decode cX3_measureWalks 132 = .ok (.iadd, 1) := by decide +kernel
theorem dX3_measureWalks_133 : decode cX3_measureWalks 133 = .ok (.iload 6, 2) := by decide +kernel
theorem dX3_measureWalks_135 : decode cX3_measureWalks 135 = .ok (.iload_n 1, 1) := by decide +kernel
theorem dX3_measureWalks_136 : decode cX3_measureWalks 136 = .ok (.iadd, 1) := by decide +kernel
theorem dX3_measureWalks_137 : decode cX3_measureWalks 137 = .ok (.iconst 1, 1) := by decide +kernel
theorem dX3_measureWalks_138 : decode cX3_measureWalks 138 = .ok (.isub, 1) := by decide +kernel
theorem dX3_measureWalks_139 : decode cX3_measureWalks 139 = .ok (.iload_n 1, 1) := by decide +kernel
theorem dX3_measureWalks_140 : decode cX3_measureWalks 140 = .ok (.idiv, 1) := by decide +kernel
theorem dX3_measureWalks_141 : decode cX3_measureWalks 141 = .ok (.iastore, 1) := by decide +kernel
theorem dX3_measureWalks_142 : decode cX3_measureWalks 142 = .ok (.iinc 3 1, 3) := by decide +kernel
theorem dX3_measureWalks_145 : decode cX3_measureWalks 145 = .ok (.goto (-127), 3) := by decide +kernel
theorem dX3_measureWalks_148 : decode cX3_measureWalks 148 = .ok (.iinc 2 1, 3) := by decide +kernel
theorem dX3_measureWalks_151 : decode cX3_measureWalks 151 = .ok (.goto (-141), 3) := by decide +kernel
theorem dX3_measureWalks_154 : decode cX3_measureWalks 154 = .ok (.return_, 1) := by decide +kernel
noncomputable def tX3_measureWalks_61 (j11 : qT (Unit × qM)) : qT (Unit × qM) :=
  o2 (· + ·) (oSi 6 (oLa 0 (oGf 47 9 56 (oLi 2 (oC (.int (10 : Int32)) (o2 (· * ·) (oLi 3 (o2 (· + ·) (oLi 6 (oWi 56 100 (oLa 0 (oGf 47 10 57 (oLi 2 (oC (.int (10 : Int32)) (o2 (· * ·) (oLi 3 (o2 (· + ·) (oLi 6 (oLi 1 (o2 (· + ·) (oC (.int (1 : Int32)) (o2 (· - ·) (oLi 1 (oDiv (oWi 57 100 (oInc 3 (1 : Int32) (j11)))))))))))))))))))))))))))
noncomputable def wX3_measureWalks_61 (k : Int32 → Int32 → Int32 → Int32 → Int32 → qM → Option (Unit × qM)) : qT (Unit × qM) := fun lo st m => match lo, st with
  | [some (.ref 47), some (.int a1), some (.int a2), some (.int a3), _, _, _], [.int s0, .int s1] => k a1 a2 a3 s0 s1 m
  | _, _ => none
noncomputable def wX3_measureWalks_11 (k : Int32 → Int32 → Int32 → qM → Option (Unit × qM)) : qT (Unit × qM) := fun lo st m => match lo, st with
  | [some (.ref 47), some (.int a1), some (.int a2), some (.int a3), _, _, _], [] => k a1 a2 a3 m
  | _, _ => none
set_option maxRecDepth 20000 in
theorem sX3_measureWalks_61 {C : qCx} {w : qWp} (h : qOk C w RX3 cX3_measureWalks 7 2 155 155) (hm : qMt C none) (hx : qNx C) {j11 : qT (Unit × qM)} (k11 : qSnd C w 7 155 (qQf C w 155 155 jV) qfin 155 18 j11) : qSnd C w 7 155 (qQf C w 155 155 jV) qfin 155 107 (tX3_measureWalks_61 j11) :=
  aAdd (pc := 107) h dX3_measureWalks_107 (cSI (pc := 108) h dX3_measureWalks_108 (cLa (pc := 110) h dX3_measureWalks_110 rfl (gGf (pc := 111) h dX3_measureWalks_111 ff_X3_36_47 (Nat.le_of_ble_eq_true rfl) (Nat.le_of_ble_eq_true rfl) rfl (cLi (pc := 114) h dX3_measureWalks_114 rfl (cB (pc := 115) h dX3_measureWalks_115 rfl (aMul (pc := 117) h dX3_measureWalks_117 (cLi (pc := 118) h dX3_measureWalks_118 rfl (aAdd (pc := 119) h dX3_measureWalks_119 (cLI (pc := 120) h dX3_measureWalks_120 (rWi (pc := 122) h dX3_measureWalks_122 rfl (Nat.le_of_ble_eq_true rfl) (Nat.le_of_ble_eq_true rfl) (cLa (pc := 123) h dX3_measureWalks_123 rfl (gGf (pc := 124) h dX3_measureWalks_124 ff_X3_39_47 (Nat.le_of_ble_eq_true rfl) (Nat.le_of_ble_eq_true rfl) rfl (cLi (pc := 127) h dX3_measureWalks_127 rfl (cB (pc := 128) h dX3_measureWalks_128 rfl (aMul (pc := 130) h dX3_measureWalks_130 (cLi (pc := 131) h dX3_measureWalks_131 rfl (aAdd (pc := 132) h dX3_measureWalks_132 (cLI (pc := 133) h dX3_measureWalks_133 (cLi (pc := 135) h dX3_measureWalks_135 rfl (aAdd (pc := 136) h dX3_measureWalks_136 (cC (pc := 137) h dX3_measureWalks_137 rfl (aSub (pc := 138) h dX3_measureWalks_138 (cLi (pc := 139) h dX3_measureWalks_139 rfl (aDiv (pc := 140) h dX3_measureWalks_140 (rWi (pc := 141) h dX3_measureWalks_141 rfl (Nat.le_of_ble_eq_true rfl) (Nat.le_of_ble_eq_true rfl) (cInc (pc := 142) h dX3_measureWalks_142 rfl (jGo (pc := 145) h dX3_measureWalks_145 rfl (k11))))))))))))))))))))))))))))
set_option maxRecDepth 20000 in
theorem lX3_measureWalks_61 (k11 : Int32 → Int32 → Int32 → qM → Option (Unit × qM)) (a1 : Int32) (a2 : Int32) (a3 : Int32) (s0 : Int32) (s1 : Int32) (m : qM) : tX3_measureWalks_61 (wX3_measureWalks_11 k11) [some (.ref 47), some (.int a1), some (.int a2), some (.int a3), none, none, none] [(.int s0), (.int s1)] m = fX3_measureWalks_61 k11 a1 a2 a3 s0 s1 m := rfl
theorem bX3_measureWalks_61 {C : qCx} {w : qWp} (h : qOk C w RX3 cX3_measureWalks 7 2 155 155) (hm : qMt C none) (hx : qNx C) {k11 : Int32 → Int32 → Int32 → qM → Option (Unit × qM)} (h11 : qSnd C w 7 155 (qQf C w 155 155 jV) qfin 155 18 (wX3_measureWalks_11 k11)) : qSnd C w 7 155 (qQf C w 155 155 jV) qfin 155 107 (wX3_measureWalks_61 (fX3_measureWalks_61 k11)) :=
  qSnd_of (fun lo st m x hr0 => by
    unfold wX3_measureWalks_61 at hr0
    split at hr0
    · exact ⟨_, (qsub_e (qsub_e (qsub_e (qsub_e (qsub_n (qsub_n (qsub_n qsub_nil))))))), (lX3_measureWalks_61 _ _ _ _ _ _ _).trans hr0⟩
    · cases hr0) (sX3_measureWalks_61 h hm hx h11)
noncomputable def tX3_measureWalks_35 (j61 : qT (Unit × qM)) : qT (Unit × qM) :=
  oSi 4 (oLa 0 (oGf 47 0 4 (oC (.int (1 : Int32)) (oCi GX7_told 2 (oLa 0 (oGf 47 2 49 (oLi 2 (oAi 49 10 (oLa 0 (oGf 47 2 49 (oLi 3 (oAi 49 10 (o2 (· - ·) (oCi GJ9_abs_0f7a4 1 (o2 (· * ·) (oSi 5 (oLi 5 (oLi 4 (oEq (oC (.int (0 : Int32)) (j61)) (oLa 0 (oGf 47 0 4 (oC (.int (2 : Int32)) (oCi GX7_told 2 (j61))))))))))))))))))))))))
noncomputable def wX3_measureWalks_35 (k : Int32 → Int32 → Int32 → Int32 → qM → Option (Unit × qM)) : qT (Unit × qM) := fun lo st m => match lo, st with
  | [some (.ref 47), some (.int a1), some (.int a2), some (.int a3), _, _, _], [.int s0] => k a1 a2 a3 s0 m
  | _, _ => none
set_option maxRecDepth 20000 in
theorem sX3_measureWalks_35 {C : qCx} {w : qWp} (h : qOk C w RX3 cX3_measureWalks 7 2 155 155) (hm : qMt C none) (hx : qNx C) {j61 : qT (Unit × qM)} (k61 : qSnd C w 7 155 (qQf C w 155 155 jV) qfin 155 107 j61) : qSnd C w 7 155 (qQf C w 155 155 jV) qfin 155 59 (tX3_measureWalks_35 j61) :=
  cSI (pc := 59) h dX3_measureWalks_59 (cLa (pc := 61) h dX3_measureWalks_61 rfl (gGf (pc := 62) h dX3_measureWalks_62 ff_X3_42_47 (Nat.le_of_ble_eq_true rfl) (Nat.le_of_ble_eq_true rfl) rfl (cC (pc := 65) h dX3_measureWalks_65 rfl (kCi (pc := 66) h (kd_X3_56 h dX3_measureWalks_66) spX7_told (by decide) (by decide) (by decide) (by decide) (cLa (pc := 69) h dX3_measureWalks_69 rfl (gGf (pc := 70) h dX3_measureWalks_70 ff_X3_15_47 (Nat.le_of_ble_eq_true rfl) (Nat.le_of_ble_eq_true rfl) rfl (cLi (pc := 73) h dX3_measureWalks_73 rfl (rAi (pc := 74) h dX3_measureWalks_74 rfl (Nat.le_of_ble_eq_true rfl) (Nat.le_of_ble_eq_true rfl) (cLa (pc := 75) h dX3_measureWalks_75 rfl (gGf (pc := 76) h dX3_measureWalks_76 ff_X3_15_47 (Nat.le_of_ble_eq_true rfl) (Nat.le_of_ble_eq_true rfl) rfl (cLi (pc := 79) h dX3_measureWalks_79 rfl (rAi (pc := 80) h dX3_measureWalks_80 rfl (Nat.le_of_ble_eq_true rfl) (Nat.le_of_ble_eq_true rfl) (aSub (pc := 81) h dX3_measureWalks_81 (kCi (pc := 82) h (kd_X3_60 h dX3_measureWalks_82) spJ9_abs_0f7a4 (by decide) (by decide) (by decide) (by decide) (aMul (pc := 85) h dX3_measureWalks_85 (cSI (pc := 86) h dX3_measureWalks_86 (cLI (pc := 88) h dX3_measureWalks_88 (cLI (pc := 90) h dX3_measureWalks_90 (jEq (pc := 92) h dX3_measureWalks_92 rfl (cC (pc := 106) h dX3_measureWalks_106 rfl (k61)) (cLa (pc := 95) h dX3_measureWalks_95 rfl (gGf (pc := 96) h dX3_measureWalks_96 ff_X3_42_47 (Nat.le_of_ble_eq_true rfl) (Nat.le_of_ble_eq_true rfl) rfl (cC (pc := 99) h dX3_measureWalks_99 rfl (kCi (pc := 100) h (kd_X3_56 h dX3_measureWalks_100) spX7_told (by decide) (by decide) (by decide) (by decide) (jGo (pc := 103) h dX3_measureWalks_103 rfl (k61)))))))))))))))))))))))))
set_option maxRecDepth 20000 in
theorem lX3_measureWalks_35 (k11 : Int32 → Int32 → Int32 → qM → Option (Unit × qM)) (a1 : Int32) (a2 : Int32) (a3 : Int32) (s0 : Int32) (m : qM) : tX3_measureWalks_35 (wX3_measureWalks_61 (fX3_measureWalks_61 k11)) [some (.ref 47), some (.int a1), some (.int a2), some (.int a3), none, none, none] [(.int s0)] m = fX3_measureWalks_35 k11 a1 a2 a3 s0 m := rfl
theorem bX3_measureWalks_35 {C : qCx} {w : qWp} (h : qOk C w RX3 cX3_measureWalks 7 2 155 155) (hm : qMt C none) (hx : qNx C) {k11 : Int32 → Int32 → Int32 → qM → Option (Unit × qM)} (h11 : qSnd C w 7 155 (qQf C w 155 155 jV) qfin 155 18 (wX3_measureWalks_11 k11)) : qSnd C w 7 155 (qQf C w 155 155 jV) qfin 155 59 (wX3_measureWalks_35 (fX3_measureWalks_35 k11)) :=
  qSnd_of (fun lo st m x hr0 => by
    unfold wX3_measureWalks_35 at hr0
    split at hr0
    · exact ⟨_, (qsub_e (qsub_e (qsub_e (qsub_e (qsub_n (qsub_n (qsub_n qsub_nil))))))), (lX3_measureWalks_35 _ _ _ _ _ _).trans hr0⟩
    · cases hr0) (sX3_measureWalks_35 h hm hx (bX3_measureWalks_61 h hm hx h11))
noncomputable def tX3_measureWalks_32 (j35 : qT (Unit × qM)) : qT (Unit × qM) :=
  oC (.int (1 : Int32)) (j35)
noncomputable def wX3_measureWalks_32 (k : Int32 → Int32 → Int32 → qM → Option (Unit × qM)) : qT (Unit × qM) := fun lo st m => match lo, st with
  | [some (.ref 47), some (.int a1), some (.int a2), some (.int a3), _, _, _], [] => k a1 a2 a3 m
  | _, _ => none
set_option maxRecDepth 20000 in
theorem sX3_measureWalks_32 {C : qCx} {w : qWp} (h : qOk C w RX3 cX3_measureWalks 7 2 155 155) (hm : qMt C none) (hx : qNx C) {j35 : qT (Unit × qM)} (k35 : qSnd C w 7 155 (qQf C w 155 155 jV) qfin 155 59 j35) : qSnd C w 7 155 (qQf C w 155 155 jV) qfin 155 54 (tX3_measureWalks_32 j35) :=
  cC (pc := 54) h dX3_measureWalks_54 rfl (jGo (pc := 55) h dX3_measureWalks_55 rfl (k35))
set_option maxRecDepth 20000 in
theorem lX3_measureWalks_32 (k11 : Int32 → Int32 → Int32 → qM → Option (Unit × qM)) (a1 : Int32) (a2 : Int32) (a3 : Int32) (m : qM) : tX3_measureWalks_32 (wX3_measureWalks_35 (fX3_measureWalks_35 k11)) [some (.ref 47), some (.int a1), some (.int a2), some (.int a3), none, none, none] [] m = fX3_measureWalks_32 k11 a1 a2 a3 m := rfl
theorem bX3_measureWalks_32 {C : qCx} {w : qWp} (h : qOk C w RX3 cX3_measureWalks 7 2 155 155) (hm : qMt C none) (hx : qNx C) {k11 : Int32 → Int32 → Int32 → qM → Option (Unit × qM)} (h11 : qSnd C w 7 155 (qQf C w 155 155 jV) qfin 155 18 (wX3_measureWalks_11 k11)) : qSnd C w 7 155 (qQf C w 155 155 jV) qfin 155 54 (wX3_measureWalks_32 (fX3_measureWalks_32 k11)) :=
  qSnd_of (fun lo st m x hr0 => by
    unfold wX3_measureWalks_32 at hr0
    split at hr0
    · exact ⟨_, (qsub_e (qsub_e (qsub_e (qsub_e (qsub_n (qsub_n (qsub_n qsub_nil))))))), (lX3_measureWalks_32 _ _ _ _ _).trans hr0⟩
    · cases hr0) (sX3_measureWalks_32 h hm hx (bX3_measureWalks_35 h hm hx h11))
noncomputable def tX3_measureWalks_11 (j6 : qT (Unit × qM)) (j32 : qT (Unit × qM)) (j35 : qT (Unit × qM)) : qT (Unit × qM) :=
  oLi 3 (oC (.int (10 : Int32)) (oCGe (oInc 2 (1 : Int32) (j6)) (oLa 0 (oGf 47 1 48 (oLi 2 (oAi 48 10 (oLa 0 (oGf 47 1 48 (oLi 3 (oAi 48 10 (oCEq (oLa 0 (oGf 47 2 49 (oLi 2 (oAi 49 10 (oLa 0 (oGf 47 2 49 (oLi 3 (oAi 49 10 (oCEq (oC (.int (0 : Int32)) (j35)) (j32)))))))))) (j32))))))))))))
noncomputable def wX3_measureWalks_6 (k : Int32 → Int32 → qM → Option (Unit × qM)) : qT (Unit × qM) := fun lo st m => match lo, st with
  | [some (.ref 47), some (.int a1), some (.int a2), _, _, _, _], [] => k a1 a2 m
  | _, _ => none
set_option maxRecDepth 20000 in
theorem sX3_measureWalks_11 {C : qCx} {w : qWp} (h : qOk C w RX3 cX3_measureWalks 7 2 155 155) (hm : qMt C none) (hx : qNx C) {j6 : qT (Unit × qM)} {j32 : qT (Unit × qM)} {j35 : qT (Unit × qM)} (k6 : qSnd C w 7 155 (qQf C w 155 155 jV) qfin 155 10 j6) (k32 : qSnd C w 7 155 (qQf C w 155 155 jV) qfin 155 54 j32) (k35 : qSnd C w 7 155 (qQf C w 155 155 jV) qfin 155 59 j35) : qSnd C w 7 155 (qQf C w 155 155 jV) qfin 155 18 (tX3_measureWalks_11 j6 j32 j35) :=
  cLi (pc := 18) h dX3_measureWalks_18 rfl (cB (pc := 19) h dX3_measureWalks_19 rfl (jCGe (pc := 21) h dX3_measureWalks_21 rfl (cInc (pc := 148) h dX3_measureWalks_148 rfl (jGo (pc := 151) h dX3_measureWalks_151 rfl (k6))) (cLa (pc := 24) h dX3_measureWalks_24 rfl (gGf (pc := 25) h dX3_measureWalks_25 ff_X3_9_47 (Nat.le_of_ble_eq_true rfl) (Nat.le_of_ble_eq_true rfl) rfl (cLi (pc := 28) h dX3_measureWalks_28 rfl (rAi (pc := 29) h dX3_measureWalks_29 rfl (Nat.le_of_ble_eq_true rfl) (Nat.le_of_ble_eq_true rfl) (cLa (pc := 30) h dX3_measureWalks_30 rfl (gGf (pc := 31) h dX3_measureWalks_31 ff_X3_9_47 (Nat.le_of_ble_eq_true rfl) (Nat.le_of_ble_eq_true rfl) rfl (cLi (pc := 34) h dX3_measureWalks_34 rfl (rAi (pc := 35) h dX3_measureWalks_35 rfl (Nat.le_of_ble_eq_true rfl) (Nat.le_of_ble_eq_true rfl) (jCNe (pc := 36) h dX3_measureWalks_36 rfl (k32) (cLa (pc := 39) h dX3_measureWalks_39 rfl (gGf (pc := 40) h dX3_measureWalks_40 ff_X3_15_47 (Nat.le_of_ble_eq_true rfl) (Nat.le_of_ble_eq_true rfl) rfl (cLi (pc := 43) h dX3_measureWalks_43 rfl (rAi (pc := 44) h dX3_measureWalks_44 rfl (Nat.le_of_ble_eq_true rfl) (Nat.le_of_ble_eq_true rfl) (cLa (pc := 45) h dX3_measureWalks_45 rfl (gGf (pc := 46) h dX3_measureWalks_46 ff_X3_15_47 (Nat.le_of_ble_eq_true rfl) (Nat.le_of_ble_eq_true rfl) rfl (cLi (pc := 49) h dX3_measureWalks_49 rfl (rAi (pc := 50) h dX3_measureWalks_50 rfl (Nat.le_of_ble_eq_true rfl) (Nat.le_of_ble_eq_true rfl) (jCEq (pc := 51) h dX3_measureWalks_51 rfl (cC (pc := 58) h dX3_measureWalks_58 rfl (k35)) (k32)))))))))))))))))))))
set_option maxRecDepth 20000 in
theorem lX3_measureWalks_11 (k6 : Int32 → Int32 → qM → Option (Unit × qM)) (n : Nat) (a1 : Int32) (a2 : Int32) (a3 : Int32) (m : qM) : tX3_measureWalks_11 (wX3_measureWalks_6 k6) (wX3_measureWalks_32 (fX3_measureWalks_32 (fX3_measureWalks_11 k6 n))) (wX3_measureWalks_35 (fX3_measureWalks_35 (fX3_measureWalks_11 k6 n))) [some (.ref 47), some (.int a1), some (.int a2), some (.int a3), none, none, none] [] m = fX3_measureWalks_11 k6 (n + 1) a1 a2 a3 m := rfl
theorem bX3_measureWalks_11 {C : qCx} {w : qWp} (h : qOk C w RX3 cX3_measureWalks 7 2 155 155) (hm : qMt C none) (hx : qNx C) {k6 : Int32 → Int32 → qM → Option (Unit × qM)} (h6 : qSnd C w 7 155 (qQf C w 155 155 jV) qfin 155 10 (wX3_measureWalks_6 k6)) : ∀ n : Nat, qSnd C w 7 155 (qQf C w 155 155 jV) qfin 155 18 (wX3_measureWalks_11 (fX3_measureWalks_11 k6 n))
  | 0 => qSnd_of0 (fun lo st m x hr0 => by
    unfold wX3_measureWalks_11 at hr0
    split at hr0
    · cases hr0
    · cases hr0)
  | n + 1 => by
    have ih := bX3_measureWalks_11 h hm hx h6 n
    exact qSnd_of (fun lo st m x hr0 => by
    unfold wX3_measureWalks_11 at hr0
    split at hr0
    · exact ⟨_, (qsub_e (qsub_e (qsub_e (qsub_e (qsub_n (qsub_n (qsub_n qsub_nil))))))), (lX3_measureWalks_11 _ n _ _ _ _).trans hr0⟩
    · cases hr0) (sX3_measureWalks_11 h hm hx h6 (bX3_measureWalks_32 h hm hx ih) (bX3_measureWalks_35 h hm hx ih))
noncomputable def tX3_measureWalks_6 (j11 : qT (Unit × qM)) : qT (Unit × qM) :=
  oLi 2 (oC (.int (10 : Int32)) (oCGe (eV) (oC (.int (0 : Int32)) (oSi 3 (j11)))))
set_option maxRecDepth 20000 in
theorem sX3_measureWalks_6 {C : qCx} {w : qWp} (h : qOk C w RX3 cX3_measureWalks 7 2 155 155) (hm : qMt C none) (hx : qNx C) {j11 : qT (Unit × qM)} (k11 : qSnd C w 7 155 (qQf C w 155 155 jV) qfin 155 18 j11) : qSnd C w 7 155 (qQf C w 155 155 jV) qfin 155 10 (tX3_measureWalks_6 j11) :=
  cLi (pc := 10) h dX3_measureWalks_10 rfl (cB (pc := 11) h dX3_measureWalks_11 rfl (jCGe (pc := 13) h dX3_measureWalks_13 rfl (zV (pc := 154) h hm (Nat.le_refl _) dX3_measureWalks_154) (cC (pc := 16) h dX3_measureWalks_16 rfl (cSi (pc := 17) h dX3_measureWalks_17 rfl (k11)))))
set_option maxRecDepth 20000 in
theorem lX3_measureWalks_6 (n : Nat) (a1 : Int32) (a2 : Int32) (m : qM) : tX3_measureWalks_6 (wX3_measureWalks_11 (fX3_measureWalks_11 (fX3_measureWalks_6 n) FU)) [some (.ref 47), some (.int a1), some (.int a2), none, none, none, none] [] m = fX3_measureWalks_6 (n + 1) a1 a2 m := rfl
theorem bX3_measureWalks_6 {C : qCx} {w : qWp} (h : qOk C w RX3 cX3_measureWalks 7 2 155 155) (hm : qMt C none) (hx : qNx C) : ∀ n : Nat, qSnd C w 7 155 (qQf C w 155 155 jV) qfin 155 10 (wX3_measureWalks_6 (fX3_measureWalks_6 n))
  | 0 => qSnd_of0 (fun lo st m x hr0 => by
    unfold wX3_measureWalks_6 at hr0
    split at hr0
    · cases hr0
    · cases hr0)
  | n + 1 => by
    have ih := bX3_measureWalks_6 h hm hx n
    exact qSnd_of (fun lo st m x hr0 => by
    unfold wX3_measureWalks_6 at hr0
    split at hr0
    · exact ⟨_, (qsub_e (qsub_e (qsub_e (qsub_n (qsub_n (qsub_n (qsub_n qsub_nil))))))), (lX3_measureWalks_6 n _ _ _).trans hr0⟩
    · cases hr0) (sX3_measureWalks_6 h hm hx (bX3_measureWalks_11 h hm hx ih FU))
noncomputable def tX3_measureWalks_0 (j6 : qT (Unit × qM)) : qT (Unit × qM) :=
  oLa 0 (oGf 47 0 4 (oCi GX7_slotMinutes 1 (oSi 1 (oC (.int (0 : Int32)) (oSi 2 (j6))))))
set_option maxRecDepth 20000 in
theorem sX3_measureWalks_0 {C : qCx} {w : qWp} (h : qOk C w RX3 cX3_measureWalks 7 2 155 155) (hm : qMt C none) (hx : qNx C) {j6 : qT (Unit × qM)} (k6 : qSnd C w 7 155 (qQf C w 155 155 jV) qfin 155 10 j6) : qSnd C w 7 155 (qQf C w 155 155 jV) qfin 155 0 (tX3_measureWalks_0 j6) :=
  cLa (pc := 0) h dX3_measureWalks_0 rfl (gGf (pc := 1) h dX3_measureWalks_1 ff_X3_42_47 (Nat.le_of_ble_eq_true rfl) (Nat.le_of_ble_eq_true rfl) rfl (kCi (pc := 4) h (kd_X3_50 h dX3_measureWalks_4) spX7_slotMinutes (by decide) (by decide) (by decide) (by decide) (cSi (pc := 7) h dX3_measureWalks_7 rfl (cC (pc := 8) h dX3_measureWalks_8 rfl (cSi (pc := 9) h dX3_measureWalks_9 rfl (k6))))))
set_option maxRecDepth 20000 in
theorem lX3_measureWalks_0 (m : qM) : tX3_measureWalks_0 (wX3_measureWalks_6 (fX3_measureWalks_6 FU)) [some (.ref 47), none, none, none, none, none, none] [] m = fX3_measureWalks_0 m := rfl
noncomputable def GX3_measureWalks : qG Unit := fun av m => match av with
  | [.ref 47] => fX3_measureWalks m
  | _ => none
theorem spX3_measureWalks : qSpV yX3_measureWalks (.code yX3_measureWalks cX3_measureWalks 7 none) 2 qfin 155 155 1 GX3_measureWalks := by
  intro av m m' hG
  unfold GX3_measureWalks at hG
  split at hG
  · rw [fX3_measureWalks_d] at hG
    exact ⟨qmeet (J := jV) (r := ((), m')) (av := [.ref 47]) (by decide +kernel) (Nat.le_of_ble_eq_true rfl) (fun C w h hm hx hn => sX3_measureWalks_0 h hm hx (bX3_measureWalks_6 h hm hx FU)) ((lX3_measureWalks_0 _).trans hG) (Nat.le_of_ble_eq_true rfl), Or.inl ⟨47, _, 3, _, _, rfl, by decide, rfl, qCk_3, rfl⟩⟩
  · cases hG

