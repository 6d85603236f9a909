/-! methods (by program): X3_setRoom, X3_setTeacher, X3_setFamily, X3_setWish, X3_setApart, X4_musts, X4_mustsLaid, X4_waitsOfAll, X4_points, X4_laidOfFamily, X4_addAsk, X5_lines, X6_open, X6_isBlank, X6_isSmall, X6_isDigit, X6_step, X6_isAtEnd, X6_isText, X6_wordOf, X6_fail, X6_takeWordOf, X6_takeNumber, X5_takeCondition -/
theorem im_X3_measureWalks : Jvm.Cond.instanceMethod yX3_measureWalks ∈ qTw := qm3 (List.mem_of_getElem? (i := 113) (by decide +kernel)) (by decide +kernel)
theorem se_X3_measureWalks : Jvm.Cond.selects yX3_measureWalks.cls yX3_measureWalks yX3_measureWalks ∈ qTw := qm3 (List.mem_of_getElem? (i := 114) (by decide +kernel)) (by decide +kernel)
theorem co_X3_measureWalks : Jvm.Cond.code yX3_measureWalks cX3_measureWalks 7 none ∈ qTw := qm3 (List.mem_of_getElem? (i := 115) (by decide +kernel)) (by decide +kernel)
theorem yk_X3_measureWalks : qYk yX3_measureWalks 0 := ⟨⟨by decide +kernel, by decide +kernel⟩, by decide +kernel⟩
theorem ml_X3_47 : Jvm.Cond.methodLink RX3 47 yX3_measureWalks ∈ qTw := qm3 (List.mem_of_getElem? (i := 217) (by decide +kernel)) (by decide +kernel)
theorem kd_X3_47 {C : qCx} {w : qWp} {cc : ByteArray} {nL dp n0 n1 pc : Nat} (h : qOk C w RX3 cc nL dp n0 n1) (d : decode cc pc = .ok (.invokevirtual 47, 3)) : qCallOk C w nL dp n0 n1 pc 1 1 yX3_measureWalks (.code yX3_measureWalks cX3_measureWalks 7 none) := kindV h d ml_X3_47 im_X3_measureWalks se_X3_measureWalks in_ParentEve_People co_X3_measureWalks yk_X3_measureWalks (by decide)
theorem dX3_setRoom_0 : decode cX3_setRoom 0 = .ok (.aload_n 0, 1) := by decide +kernel
theorem dX3_setRoom_1 : decode cX3_setRoom 1 = .ok (.getfield 9, 3) := by decide +kernel
theorem dX3_setRoom_4 : decode cX3_setRoom 4 = .ok (.iload_n 1, 1) := by decide +kernel
theorem dX3_setRoom_5 : decode cX3_setRoom 5 = .ok (.iload_n 2, 1) := by decide +kernel
theorem dX3_setRoom_6 : decode cX3_setRoom 6 = .ok (.iastore, 1) := by decide +kernel
theorem dX3_setRoom_7 : decode cX3_setRoom 7 = .ok (.aload_n 0, 1) := by decide +kernel
theorem dX3_setRoom_8 : decode cX3_setRoom 8 = .ok (.getfield 15, 3) := by decide +kernel
theorem dX3_setRoom_11 : decode cX3_setRoom 11 = .ok (.iload_n 1, 1) := by decide +kernel
theorem dX3_setRoom_12 : decode cX3_setRoom 12 = .ok (.iload_n 3, 1) := by decide +kernel
theorem dX3_setRoom_13 : decode cX3_setRoom 13 = .ok (.iastore, 1) := by decide +kernel
theorem dX3_setRoom_14 : decode cX3_setRoom 14 = .ok (.aload_n 0, 1) := by decide +kernel
theorem dX3_setRoom_15 : decode cX3_setRoom 15 = .ok (.invokevirtual 47, 3) := by decide +kernel
theorem dX3_setRoom_18 : decode cX3_setRoom 18 = .ok (.return_, 1) := by decide +kernel
noncomputable def tX3_setRoom_0 : qT (Unit × qM) :=
  oLa 0 (oGf 47 1 48 (oLi 1 (oLi 2 (oWi 48 10 (oLa 0 (oGf 47 2 49 (oLi 1 (oLi 3 (oWi 49 10 (oLa 0 (oCv GX3_measureWalks 1 (eV))))))))))))
set_option maxRecDepth 20000 in
theorem sX3_setRoom_0 {C : qCx} {w : qWp} (h : qOk C w RX3 cX3_setRoom 4 3 155 155) (hm : qMt C none) (hx : qNx C) : qSnd C w 4 155 (qQf C w 155 155 jV) qfin 155 0 (tX3_setRoom_0) :=
  cLa (pc := 0) h dX3_setRoom_0 rfl (gGf (pc := 1) h dX3_setRoom_1 ff_X3_9_47 (Nat.le_of_ble_eq_true rfl) (Nat.le_of_ble_eq_true rfl) rfl (cLi (pc := 4) h dX3_setRoom_4 rfl (cLi (pc := 5) h dX3_setRoom_5 rfl (rWi (pc := 6) h dX3_setRoom_6 rfl (Nat.le_of_ble_eq_true rfl) (Nat.le_of_ble_eq_true rfl) (cLa (pc := 7) h dX3_setRoom_7 rfl (gGf (pc := 8) h dX3_setRoom_8 ff_X3_15_47 (Nat.le_of_ble_eq_true rfl) (Nat.le_of_ble_eq_true rfl) rfl (cLi (pc := 11) h dX3_setRoom_11 rfl (cLi (pc := 12) h dX3_setRoom_12 rfl (rWi (pc := 13) h dX3_setRoom_13 rfl (Nat.le_of_ble_eq_true rfl) (Nat.le_of_ble_eq_true rfl) (cLa (pc := 14) h dX3_setRoom_14 rfl (kCv (pc := 15) h (kd_X3_47 h dX3_setRoom_15) spX3_measureWalks (by decide) (by decide) (by decide) (by decide) (zV (pc := 18) h hm (Nat.le_refl _) dX3_setRoom_18))))))))))))
set_option maxRecDepth 20000 in
theorem lX3_setRoom_0 (a1 : Int32) (a2 : Int32) (a3 : Int32) (m : qM) : tX3_setRoom_0 [some (.ref 47), some (.int a1), some (.int a2), some (.int a3)] [] m = fX3_setRoom_0 a1 a2 a3 m := rfl
noncomputable def GX3_setRoom : qG Unit := fun av m => match av with
  | [.ref 47, .int a1, .int a2, .int a3] => fX3_setRoom a1 a2 a3 m
  | _ => none
theorem spX3_setRoom : qSpV yX3_setRoom (.code yX3_setRoom cX3_setRoom 4 none) 3 qfin 155 155 1 GX3_setRoom := by
  intro av m m' hG
  unfold GX3_setRoom at hG
  split at hG
  · rename_i a1 a2 a3
    rw [fX3_setRoom_d] at hG
    exact ⟨qmeet (J := jV) (r := ((), m')) (av := [.ref 47, .int a1, .int a2, .int a3]) (by decide +kernel) (Nat.le_of_ble_eq_true rfl) (fun C w h hm hx hn => sX3_setRoom_0 h hm hx) ((lX3_setRoom_0 _ _ _ _).trans hG) (Nat.le_of_ble_eq_true rfl), Or.inl ⟨47, _, 3, _, _, rfl, by decide, rfl, qCk_3, rfl⟩⟩
  · cases hG
theorem dX3_setTeacher_0 : decode cX3_setTeacher 0 = .ok (.aload_n 0, 1) := by decide +kernel
theorem dX3_setTeacher_1 : decode cX3_setTeacher 1 = .ok (.getfield 18, 3) := by decide +kernel
theorem dX3_setTeacher_4 : decode cX3_setTeacher 4 = .ok (.iload_n 1, 1) := by decide +kernel
theorem dX3_setTeacher_5 : decode cX3_setTeacher 5 = .ok (.iload_n 2, 1) := by decide +kernel
theorem dX3_setTeacher_6 : decode cX3_setTeacher 6 = .ok (.iastore, 1) := by decide +kernel
theorem dX3_setTeacher_7 : decode cX3_setTeacher 7 = .ok (.return_, 1) := by decide +kernel
noncomputable def tX3_setTeacher_0 : qT (Unit × qM) :=
  oLa 0 (oGf 47 3 50 (oLi 1 (oLi 2 (oWi 50 10 (eV)))))
set_option maxRecDepth 20000 in
theorem sX3_setTeacher_0 {C : qCx} {w : qWp} (h : qOk C w RX3 cX3_setTeacher 3 0 155 155) (hm : qMt C none) (hx : qNx C) : qSnd C w 3 155 (qQf C w 155 155 jV) qfin 155 0 (tX3_setTeacher_0) :=
  cLa (pc := 0) h dX3_setTeacher_0 rfl (gGf (pc := 1) h dX3_setTeacher_1 ff_X3_18_47 (Nat.le_of_ble_eq_true rfl) (Nat.le_of_ble_eq_true rfl) rfl (cLi (pc := 4) h dX3_setTeacher_4 rfl (cLi (pc := 5) h dX3_setTeacher_5 rfl (rWi (pc := 6) h dX3_setTeacher_6 rfl (Nat.le_of_ble_eq_true rfl) (Nat.le_of_ble_eq_true rfl) (zV (pc := 7) h hm (Nat.le_refl _) dX3_setTeacher_7)))))
set_option maxRecDepth 20000 in
theorem lX3_setTeacher_0 (a1 : Int32) (a2 : Int32) (m : qM) : tX3_setTeacher_0 [some (.ref 47), some (.int a1), some (.int a2)] [] m = fX3_setTeacher_0 a1 a2 m := rfl
noncomputable def GX3_setTeacher : qG Unit := fun av m => match av with
  | [.ref 47, .int a1, .int a2] => fX3_setTeacher a1 a2 m
  | _ => none
theorem spX3_setTeacher : qSpV yX3_setTeacher (.code yX3_setTeacher cX3_setTeacher 3 none) 0 qfin 155 155 1 GX3_setTeacher := by
  intro av m m' hG
  unfold GX3_setTeacher at hG
  split at hG
  · rename_i a1 a2
    rw [fX3_setTeacher_d] at hG
    exact ⟨qmeet (J := jV) (r := ((), m')) (av := [.ref 47, .int a1, .int a2]) (by decide +kernel) (Nat.le_of_ble_eq_true rfl) (fun C w h hm hx hn => sX3_setTeacher_0 h hm hx) ((lX3_setTeacher_0 _ _ _).trans hG) (Nat.le_of_ble_eq_true rfl), Or.inl ⟨47, _, 3, _, _, rfl, by decide, rfl, qCk_3, rfl⟩⟩
  · cases hG
theorem dX3_setFamily_0 : decode cX3_setFamily 0 = .ok (.aload_n 0, 1) := by decide +kernel
theorem dX3_setFamily_1 : decode cX3_setFamily 1 = .ok (.getfield 21, 3) := by decide +kernel
theorem dX3_setFamily_4 : decode cX3_setFamily 4 = .ok (.iload_n 1, 1) := by decide +kernel
theorem dX3_setFamily_5 : decode cX3_setFamily 5 = .ok (.iload_n 2, 1) := by decide +kernel
theorem dX3_setFamily_6 : decode cX3_setFamily 6 = .ok (.iastore, 1) := by decide +kernel
theorem dX3_setFamily_7 : decode cX3_setFamily 7 = .ok (.aload_n 0, 1) := by decide +kernel
theorem dX3_setFamily_8 : decode cX3_setFamily 8 = .ok (.getfield 24, 3) := by decide +kernel
theorem dX3_setFamily_11 : decode cX3_setFamily 11 = .ok (.iload_n 1, 1) := by decide +kernel
theorem dX3_setFamily_12 : decode cX3_setFamily 12 = .ok (.iload_n 3, 1) := by decide +kernel
theorem dX3_setFamily_13 : decode cX3_setFamily 13 = .ok (.iastore, 1) := by decide +kernel
theorem dX3_setFamily_14 : decode cX3_setFamily 14 = .ok (.return_, 1) := by decide +kernel
noncomputable def tX3_setFamily_0 : qT (Unit × qM) :=
  oLa 0 (oGf 47 4 51 (oLi 1 (oLi 2 (oWi 51 15 (oLa 0 (oGf 47 5 52 (oLi 1 (oLi 3 (oWi 52 15 (eV))))))))))
set_option maxRecDepth 20000 in
theorem sX3_setFamily_0 {C : qCx} {w : qWp} (h : qOk C w RX3 cX3_setFamily 4 0 155 155) (hm : qMt C none) (hx : qNx C) : qSnd C w 4 155 (qQf C w 155 155 jV) qfin 155 0 (tX3_setFamily_0) :=
  cLa (pc := 0) h dX3_setFamily_0 rfl (gGf (pc := 1) h dX3_setFamily_1 ff_X3_21_47 (Nat.le_of_ble_eq_true rfl) (Nat.le_of_ble_eq_true rfl) rfl (cLi (pc := 4) h dX3_setFamily_4 rfl (cLi (pc := 5) h dX3_setFamily_5 rfl (rWi (pc := 6) h dX3_setFamily_6 rfl (Nat.le_of_ble_eq_true rfl) (Nat.le_of_ble_eq_true rfl) (cLa (pc := 7) h dX3_setFamily_7 rfl (gGf (pc := 8) h dX3_setFamily_8 ff_X3_24_47 (Nat.le_of_ble_eq_true rfl) (Nat.le_of_ble_eq_true rfl) rfl (cLi (pc := 11) h dX3_setFamily_11 rfl (cLi (pc := 12) h dX3_setFamily_12 rfl (rWi (pc := 13) h dX3_setFamily_13 rfl (Nat.le_of_ble_eq_true rfl) (Nat.le_of_ble_eq_true rfl) (zV (pc := 14) h hm (Nat.le_refl _) dX3_setFamily_14))))))))))
set_option maxRecDepth 20000 in
theorem lX3_setFamily_0 (a1 : Int32) (a2 : Int32) (a3 : Int32) (m : qM) : tX3_setFamily_0 [some (.ref 47), some (.int a1), some (.int a2), some (.int a3)] [] m = fX3_setFamily_0 a1 a2 a3 m := rfl
noncomputable def GX3_setFamily : qG Unit := fun av m => match av with
  | [.ref 47, .int a1, .int a2, .int a3] => fX3_setFamily a1 a2 a3 m
  | _ => none
theorem spX3_setFamily : qSpV yX3_setFamily (.code yX3_setFamily cX3_setFamily 4 none) 0 qfin 155 155 1 GX3_setFamily := by
  intro av m m' hG
  unfold GX3_setFamily at hG
  split at hG
  · rename_i a1 a2 a3
    rw [fX3_setFamily_d] at hG
    exact ⟨qmeet (J := jV) (r := ((), m')) (av := [.ref 47, .int a1, .int a2, .int a3]) (by decide +kernel) (Nat.le_of_ble_eq_true rfl) (fun C w h hm hx hn => sX3_setFamily_0 h hm hx) ((lX3_setFamily_0 _ _ _ _).trans hG) (Nat.le_of_ble_eq_true rfl), Or.inl ⟨47, _, 3, _, _, rfl, by decide, rfl, qCk_3, rfl⟩⟩
  · cases hG
theorem dX3_setWish_0 : decode cX3_setWish 0 = .ok (.aload_n 0, 1) := by decide +kernel
theorem dX3_setWish_1 : decode cX3_setWish 1 = .ok (.getfield 27, 3) := by decide +kernel
theorem dX3_setWish_4 : decode cX3_setWish 4 = .ok (.iload_n 1, 1) := by decide +kernel
theorem dX3_setWish_5 : decode cX3_setWish 5 = .ok (.iload_n 2, 1) := by decide +kernel
theorem dX3_setWish_6 : decode cX3_setWish 6 = .ok (.iastore, 1) := by decide +kernel
theorem dX3_setWish_7 : decode cX3_setWish 7 = .ok (.aload_n 0, 1) := by decide +kernel
theorem dX3_setWish_8 : decode cX3_setWish 8 = .ok (.getfield 30, 3) := by decide +kernel
theorem dX3_setWish_11 : decode cX3_setWish 11 = .ok (.iload_n 1, 1) := by decide +kernel
theorem dX3_setWish_12 : decode cX3_setWish 12 = .ok (.iload_n 3, 1) := by decide +kernel
theorem dX3_setWish_13 : decode cX3_setWish 13 = .ok (.iastore, 1) := by decide +kernel
theorem dX3_setWish_14 : decode cX3_setWish 14 = .ok (.return_, 1) := by decide +kernel
noncomputable def tX3_setWish_0 : qT (Unit × qM) :=
  oLa 0 (oGf 47 6 53 (oLi 1 (oLi 2 (oWi 53 15 (oLa 0 (oGf 47 7 54 (oLi 1 (oLi 3 (oWi 54 15 (eV))))))))))
set_option maxRecDepth 20000 in
theorem sX3_setWish_0 {C : qCx} {w : qWp} (h : qOk C w RX3 cX3_setWish 4 0 155 155) (hm : qMt C none) (hx : qNx C) : qSnd C w 4 155 (qQf C w 155 155 jV) qfin 155 0 (tX3_setWish_0) :=
  cLa (pc := 0) h dX3_setWish_0 rfl (gGf (pc := 1) h dX3_setWish_1 ff_X3_27_47 (Nat.le_of_ble_eq_true rfl) (Nat.le_of_ble_eq_true rfl) rfl (cLi (pc := 4) h dX3_setWish_4 rfl (cLi (pc := 5) h dX3_setWish_5 rfl (rWi (pc := 6) h dX3_setWish_6 rfl (Nat.le_of_ble_eq_true rfl) (Nat.le_of_ble_eq_true rfl) (cLa (pc := 7) h dX3_setWish_7 rfl (gGf (pc := 8) h dX3_setWish_8 ff_X3_30_47 (Nat.le_of_ble_eq_true rfl) (Nat.le_of_ble_eq_true rfl) rfl (cLi (pc := 11) h dX3_setWish_11 rfl (cLi (pc := 12) h dX3_setWish_12 rfl (rWi (pc := 13) h dX3_setWish_13 rfl (Nat.le_of_ble_eq_true rfl) (Nat.le_of_ble_eq_true rfl) (zV (pc := 14) h hm (Nat.le_refl _) dX3_setWish_14))))))))))
set_option maxRecDepth 20000 in
theorem lX3_setWish_0 (a1 : Int32) (a2 : Int32) (a3 : Int32) (m : qM) : tX3_setWish_0 [some (.ref 47), some (.int a1), some (.int a2), some (.int a3)] [] m = fX3_setWish_0 a1 a2 a3 m := rfl
noncomputable def GX3_setWish : qG Unit := fun av m => match av with
  | [.ref 47, .int a1, .int a2, .int a3] => fX3_setWish a1 a2 a3 m
  | _ => none
theorem spX3_setWish : qSpV yX3_setWish (.code yX3_setWish cX3_setWish 4 none) 0 qfin 155 155 1 GX3_setWish := by
  intro av m m' hG
  unfold GX3_setWish at hG
  split at hG
  · rename_i a1 a2 a3
    rw [fX3_setWish_d] at hG
    exact ⟨qmeet (J := jV) (r := ((), m')) (av := [.ref 47, .int a1, .int a2, .int a3]) (by decide +kernel) (Nat.le_of_ble_eq_true rfl) (fun C w h hm hx hn => sX3_setWish_0 h hm hx) ((lX3_setWish_0 _ _ _ _).trans hG) (Nat.le_of_ble_eq_true rfl), Or.inl ⟨47, _, 3, _, _, rfl, by decide, rfl, qCk_3, rfl⟩⟩
  · cases hG
theorem ml_X3_65 : Jvm.Cond.methodLinkNest RX3 65 yX11_has "ParentEve" ∈ qTw := qm4 (List.mem_of_getElem? (i := 21) (by decide +kernel)) (by decide +kernel)
theorem kd_X3_65 {C : qCx} {w : qWp} {cc : ByteArray} {nL dp n0 n1 pc : Nat} (h : qOk C w RX3 cc nL dp n0 n1) (d : decode cc pc = .ok (.invokestatic 65, 3)) : qCallOk C w nL dp n0 n1 pc 2 0 yX11_has (.code yX11_has cX11_has 2 (some .boolean)) := kindSN h d ml_X3_65 im_X11_has in_ParentEve co_X11_has yk_X11_has (by decide)
theorem dX3_setApart_0 : decode cX3_setApart 0 = .ok (.aload_n 0, 1) := by decide +kernel
theorem dX3_setApart_1 : decode cX3_setApart 1 = .ok (.getfield 33, 3) := by decide +kernel
theorem dX3_setApart_4 : decode cX3_setApart 4 = .ok (.iload_n 1, 1) := by decide +kernel
theorem dX3_setApart_5 : decode cX3_setApart 5 = .ok (.iaload, 1) := by decide +kernel
theorem dX3_setApart_6 : decode cX3_setApart 6 = .ok (.iload_n 2, 1) := by decide +kernel
theorem dX3_setApart_7 : decode cX3_setApart 7 = .ok (.invokestatic 65, 3) := by decide +kernel
theorem dX3_setApart_10 : decode cX3_setApart 10 = .ok (.iload_n 3, 1) := by decide +kernel
theorem dX3_setApart_11 : decode cX3_setApart 11 = .ok (.if_icmp .ne 5, 3) := by decide +kernel
theorem dX3_setApart_14 : decode cX3_setApart 14 = .ok (.iconst 0, 1) := by decide +kernel
theorem dX3_setApart_15 : decode cX3_setApart 15 = .ok (.ireturn, 1) := by decide +kernel
theorem dX3_setApart_16 : decode cX3_setApart 16 = .ok (.aload_n 0, 1) := by decide +kernel
theorem dX3_setApart_17 : decode cX3_setApart 17 = .ok (.getfield 33, 3) := by decide +kernel
theorem dX3_setApart_20 : decode cX3_setApart 20 = .ok (.iload_n 1, 1) := by decide +kernel
theorem dX3_setApart_21 : decode cX3_setApart 21 = .ok (.dup2, 1) := by decide +kernel
theorem dX3_setApart_22 : decode cX3_setApart 22 = .ok (.iaload, 1) := by decide +kernel
theorem dX3_setApart_23 : decode cX3_setApart 23 = .ok (.iconst 1, 1) := by decide +kernel
theorem dX3_setApart_24 : decode cX3_setApart 24 = .ok (.iload_n 2, 1) := by decide +kernel
theorem dX3_setApart_25 : decode cX3_setApart 25 = .ok (.ishl, 1) := by decide +kernel
theorem dX3_setApart_26 : decode cX3_setApart 26 = .ok (.ixor, 1) := by decide +kernel
theorem dX3_setApart_27 : decode cX3_setApart 27 = .ok (.iastore, 1) := by decide +kernel
theorem dX3_setApart_28 : decode cX3_setApart 28 = .ok (.aload_n 0, 1) := by decide +kernel
theorem dX3_setApart_29 : decode cX3_setApart 29 = .ok (.getfield 33, 3) := by decide +kernel
theorem dX3_setApart_32 : decode cX3_setApart 32 = .ok (.iload_n 2, 1) := by decide +kernel
theorem dX3_setApart_33 : decode cX3_setApart 33 = .ok (.dup2, 1) := by decide +kernel
theorem dX3_setApart_34 : decode cX3_setApart 34 = .ok (.iaload, 1) := by decide +kernel
theorem dX3_setApart_35 : decode cX3_setApart 35 = .ok (.iconst 1, 1) := by decide +kernel
theorem dX3_setApart_36 : decode cX3_setApart 36 = .ok (.iload_n 1, 1) := by decide +kernel
theorem dX3_setApart_37 : decode cX3_setApart 37 = .ok (.ishl, 1) := by decide +kernel
theorem dX3_setApart_38 : decode cX3_setApart 38 = .ok (.ixor, 1) := by decide +kernel
theorem dX3_setApart_39 : decode cX3_setApart 39 = .ok (.iastore, 1) := by decide +kernel
theorem dX3_setApart_40 : decode cX3_setApart 40 = .ok (.iconst 1, 1) := by decide +kernel
theorem dX3_setApart_41 : decode cX3_setApart 41 = .ok (.ireturn, 1) := by decide +kernel
noncomputable def tX3_setApart_0 : qT (Int32 × qM) :=
  oLa 0 (oGf 47 8 55 (oLi 1 (oAi 55 15 (oLi 2 (oCi GX11_has 2 (oLi 3 (oCEq (oC (.int (0 : Int32)) (eZ)) (oLa 0 (oGf 47 8 55 (oLi 1 (oDup2 (oAi 55 15 (oC (.int (1 : Int32)) (oLi 2 (o2 (fun x y => x <<< (y &&& 31)) (o2 (· ^^^ ·) (oWi 55 15 (oLa 0 (oGf 47 8 55 (oLi 2 (oDup2 (oAi 55 15 (oC (.int (1 : Int32)) (oLi 1 (o2 (fun x y => x <<< (y &&& 31)) (o2 (· ^^^ ·) (oWi 55 15 (oC (.int (1 : Int32)) (eZ)))))))))))))))))))))))))))))
set_option maxRecDepth 20000 in
theorem sX3_setApart_0 {C : qCx} {w : qWp} (h : qOk C w RX3 cX3_setApart 4 1 155 155) (hm : qMt C (some .boolean)) (hx : qNx C) : qSnd C w 4 155 (qQf C w 155 155 jI) qfin 155 0 (tX3_setApart_0) :=
  cLa (pc := 0) h dX3_setApart_0 rfl (gGf (pc := 1) h dX3_setApart_1 ff_X3_33_47 (Nat.le_of_ble_eq_true rfl) (Nat.le_of_ble_eq_true rfl) rfl (cLi (pc := 4) h dX3_setApart_4 rfl (rAi (pc := 5) h dX3_setApart_5 rfl (Nat.le_of_ble_eq_true rfl) (Nat.le_of_ble_eq_true rfl) (cLi (pc := 6) h dX3_setApart_6 rfl (kCi (pc := 7) h (kd_X3_65 h dX3_setApart_7) spX11_has (by decide) (by decide) (by decide) (by decide) (cLi (pc := 10) h dX3_setApart_10 rfl (jCNe (pc := 11) h dX3_setApart_11 rfl (cLa (pc := 16) h dX3_setApart_16 rfl (gGf (pc := 17) h dX3_setApart_17 ff_X3_33_47 (Nat.le_of_ble_eq_true rfl) (Nat.le_of_ble_eq_true rfl) rfl (cLi (pc := 20) h dX3_setApart_20 rfl (aDup2 (pc := 21) h dX3_setApart_21 (rAi (pc := 22) h dX3_setApart_22 rfl (Nat.le_of_ble_eq_true rfl) (Nat.le_of_ble_eq_true rfl) (cC (pc := 23) h dX3_setApart_23 rfl (cLi (pc := 24) h dX3_setApart_24 rfl (aShl (pc := 25) h dX3_setApart_25 (aXor (pc := 26) h dX3_setApart_26 (rWi (pc := 27) h dX3_setApart_27 rfl (Nat.le_of_ble_eq_true rfl) (Nat.le_of_ble_eq_true rfl) (cLa (pc := 28) h dX3_setApart_28 rfl (gGf (pc := 29) h dX3_setApart_29 ff_X3_33_47 (Nat.le_of_ble_eq_true rfl) (Nat.le_of_ble_eq_true rfl) rfl (cLi (pc := 32) h dX3_setApart_32 rfl (aDup2 (pc := 33) h dX3_setApart_33 (rAi (pc := 34) h dX3_setApart_34 rfl (Nat.le_of_ble_eq_true rfl) (Nat.le_of_ble_eq_true rfl) (cC (pc := 35) h dX3_setApart_35 rfl (cLi (pc := 36) h dX3_setApart_36 rfl (aShl (pc := 37) h dX3_setApart_37 (aXor (pc := 38) h dX3_setApart_38 (rWi (pc := 39) h dX3_setApart_39 rfl (Nat.le_of_ble_eq_true rfl) (Nat.le_of_ble_eq_true rfl) (cC (pc := 40) h dX3_setApart_40 rfl (zZ (pc := 41) h hm (Nat.le_refl _) dX3_setApart_41)))))))))))))))))))))) (cC (pc := 14) h dX3_setApart_14 rfl (zZ (pc := 15) h hm (Nat.le_refl _) dX3_setApart_15)))))))))
set_option maxRecDepth 20000 in
theorem lX3_setApart_0 (a1 : Int32) (a2 : Int32) (a3 : Int32) (m : qM) : tX3_setApart_0 [some (.ref 47), some (.int a1), some (.int a2), some (.int a3)] [] m = fX3_setApart_0 a1 a2 a3 m := rfl
noncomputable def GX3_setApart : qG Int32 := fun av m => match av with
  | [.ref 47, .int a1, .int a2, .int a3] => fX3_setApart a1 a2 a3 m
  | _ => none
theorem spX3_setApart : qSpI yX3_setApart (.code yX3_setApart cX3_setApart 4 (some .boolean)) 1 qfin 155 155 1 GX3_setApart := by
  intro av m x m' hG
  unfold GX3_setApart at hG
  split at hG
  · rename_i a1 a2 a3
    rw [fX3_setApart_d] at hG
    exact ⟨qmeet (J := jI) (r := (x, m')) (av := [.ref 47, .int a1, .int a2, .int a3]) (by decide +kernel) (Nat.le_of_ble_eq_true rfl) (fun C w h hm hx hn => sX3_setApart_0 h hm hx) ((lX3_setApart_0 _ _ _ _).trans hG) (Nat.le_of_ble_eq_true rfl), Or.inl ⟨47, _, 3, _, _, rfl, by decide, rfl, qCk_3, rfl⟩⟩
  · cases hG
theorem dX4_musts_0 : decode cX4_musts 0 = .ok (.aload_n 0, 1) := by decide +kernel
theorem dX4_musts_1 : decode cX4_musts 1 = .ok (.getfield 44, 3) := by decide +kernel
theorem dX4_musts_4 : decode cX4_musts 4 = .ok (.ireturn, 1) := by decide +kernel
noncomputable def tX4_musts_0 : qT (Int32 × qM) :=
  oLa 0 (oGi 58 12 (eI))
set_option maxRecDepth 20000 in
theorem sX4_musts_0 {C : qCx} {w : qWp} (h : qOk C w RX4 cX4_musts 1 0 155 155) (hm : qMt C (some .int)) (hx : qNx C) : qSnd C w 1 155 (qQf C w 155 155 jI) qfin 155 0 (tX4_musts_0) :=
  cLa (pc := 0) h dX4_musts_0 rfl (gGi (pc := 1) h dX4_musts_1 ff_X4_44_58 (Nat.le_of_ble_eq_true rfl) (Nat.le_of_ble_eq_true rfl) (zI (pc := 4) h hm (Nat.le_refl _) dX4_musts_4))
set_option maxRecDepth 20000 in
theorem lX4_musts_0 (m : qM) : tX4_musts_0 [some (.ref 58)] [] m = fX4_musts_0 m := rfl
noncomputable def GX4_musts : qG Int32 := fun av m => match av with
  | [.ref 58] => fX4_musts m
  | _ => none
theorem spX4_musts : qSpI yX4_musts (.code yX4_musts cX4_musts 1 (some .int)) 0 qfin 155 155 1 GX4_musts := by
  intro av m x m' hG
  unfold GX4_musts at hG
  split at hG
  · rw [fX4_musts_d] at hG
    exact ⟨qmeet (J := jI) (r := (x, m')) (av := [.ref 58]) (by decide +kernel) (Nat.le_of_ble_eq_true rfl) (fun C w h hm hx hn => sX4_musts_0 h hm hx) ((lX4_musts_0 _).trans hG) (Nat.le_of_ble_eq_true rfl), Or.inl ⟨58, _, 4, _, _, rfl, by decide, rfl, qCk_4, rfl⟩⟩
  · cases hG
theorem dX4_mustsLaid_0 : decode cX4_mustsLaid 0 = .ok (.aload_n 0, 1) := by decide +kernel
theorem dX4_mustsLaid_1 : decode cX4_mustsLaid 1 = .ok (.getfield 50, 3) := by decide +kernel
theorem dX4_mustsLaid_4 : decode cX4_mustsLaid 4 = .ok (.ireturn, 1) := by decide +kernel
noncomputable def tX4_mustsLaid_0 : qT (Int32 × qM) :=
  oLa 0 (oGi 58 14 (eI))
set_option maxRecDepth 20000 in
theorem sX4_mustsLaid_0 {C : qCx} {w : qWp} (h : qOk C w RX4 cX4_mustsLaid 1 0 155 155) (hm : qMt C (some .int)) (hx : qNx C) : qSnd C w 1 155 (qQf C w 155 155 jI) qfin 155 0 (tX4_mustsLaid_0) :=
  cLa (pc := 0) h dX4_mustsLaid_0 rfl (gGi (pc := 1) h dX4_mustsLaid_1 ff_X4_50_58 (Nat.le_of_ble_eq_true rfl) (Nat.le_of_ble_eq_true rfl) (zI (pc := 4) h hm (Nat.le_refl _) dX4_mustsLaid_4))
set_option maxRecDepth 20000 in
theorem lX4_mustsLaid_0 (m : qM) : tX4_mustsLaid_0 [some (.ref 58)] [] m = fX4_mustsLaid_0 m := rfl
noncomputable def GX4_mustsLaid : qG Int32 := fun av m => match av with
  | [.ref 58] => fX4_mustsLaid m
  | _ => none
theorem spX4_mustsLaid : qSpI yX4_mustsLaid (.code yX4_mustsLaid cX4_mustsLaid 1 (some .int)) 0 qfin 155 155 1 GX4_mustsLaid := by
  intro av m x m' hG
  unfold GX4_mustsLaid at hG
  split at hG
  · rw [fX4_mustsLaid_d] at hG
    exact ⟨qmeet (J := jI) (r := (x, m')) (av := [.ref 58]) (by decide +kernel) (Nat.le_of_ble_eq_true rfl) (fun C w h hm hx hn => sX4_mustsLaid_0 h hm hx) ((lX4_mustsLaid_0 _).trans hG) (Nat.le_of_ble_eq_true rfl), Or.inl ⟨58, _, 4, _, _, rfl, by decide, rfl, qCk_4, rfl⟩⟩
  · cases hG
theorem dX4_waitsOfAll_0 : decode cX4_waitsOfAll 0 = .ok (.aload_n 0, 1) := by decide +kernel
theorem dX4_waitsOfAll_1 : decode cX4_waitsOfAll 1 = .ok (.getfield 53, 3) := by decide +kernel
theorem dX4_waitsOfAll_4 : decode cX4_waitsOfAll 4 = .ok (.ireturn, 1) := by decide +kernel
noncomputable def tX4_waitsOfAll_0 : qT (Int32 × qM) :=
  oLa 0 (oGi 58 15 (eI))
set_option maxRecDepth 20000 in
theorem sX4_waitsOfAll_0 {C : qCx} {w : qWp} (h : qOk C w RX4 cX4_waitsOfAll 1 0 155 155) (hm : qMt C (some .int)) (hx : qNx C) : qSnd C w 1 155 (qQf C w 155 155 jI) qfin 155 0 (tX4_waitsOfAll_0) :=
  cLa (pc := 0) h dX4_waitsOfAll_0 rfl (gGi (pc := 1) h dX4_waitsOfAll_1 ff_X4_53_58 (Nat.le_of_ble_eq_true rfl) (Nat.le_of_ble_eq_true rfl) (zI (pc := 4) h hm (Nat.le_refl _) dX4_waitsOfAll_4))
set_option maxRecDepth 20000 in
theorem lX4_waitsOfAll_0 (m : qM) : tX4_waitsOfAll_0 [some (.ref 58)] [] m = fX4_waitsOfAll_0 m := rfl
noncomputable def GX4_waitsOfAll : qG Int32 := fun av m => match av with
  | [.ref 58] => fX4_waitsOfAll m
  | _ => none
theorem spX4_waitsOfAll : qSpI yX4_waitsOfAll (.code yX4_waitsOfAll cX4_waitsOfAll 1 (some .int)) 0 qfin 155 155 1 GX4_waitsOfAll := by
  intro av m x m' hG
  unfold GX4_waitsOfAll at hG
  split at hG
  · rw [fX4_waitsOfAll_d] at hG
    exact ⟨qmeet (J := jI) (r := (x, m')) (av := [.ref 58]) (by decide +kernel) (Nat.le_of_ble_eq_true rfl) (fun C w h hm hx hn => sX4_waitsOfAll_0 h hm hx) ((lX4_waitsOfAll_0 _).trans hG) (Nat.le_of_ble_eq_true rfl), Or.inl ⟨58, _, 4, _, _, rfl, by decide, rfl, qCk_4, rfl⟩⟩
  · cases hG
theorem dX4_points_0 : decode cX4_points 0 = .ok (.aload_n 0, 1) := by decide +kernel
theorem dX4_points_1 : decode cX4_points 1 = .ok (.getfield 56, 3) := by decide +kernel
theorem dX4_points_4 : decode cX4_points 4 = .ok (.ireturn, 1) := by decide +kernel
noncomputable def tX4_points_0 : qT (Int32 × qM) :=
  oLa 0 (oGi 58 16 (eI))
set_option maxRecDepth 20000 in
theorem sX4_points_0 {C : qCx} {w : qWp} (h : qOk C w RX4 cX4_points 1 0 155 155) (hm : qMt C (some .int)) (hx : qNx C) : qSnd C w 1 155 (qQf C w 155 155 jI) qfin 155 0 (tX4_points_0) :=
  cLa (pc := 0) h dX4_points_0 rfl (gGi (pc := 1) h dX4_points_1 ff_X4_56_58 (Nat.le_of_ble_eq_true rfl) (Nat.le_of_ble_eq_true rfl) (zI (pc := 4) h hm (Nat.le_refl _) dX4_points_4))
set_option maxRecDepth 20000 in
theorem lX4_points_0 (m : qM) : tX4_points_0 [some (.ref 58)] [] m = fX4_points_0 m := rfl
noncomputable def GX4_points : qG Int32 := fun av m => match av with
  | [.ref 58] => fX4_points m
  | _ => none
theorem spX4_points : qSpI yX4_points (.code yX4_points cX4_points 1 (some .int)) 0 qfin 155 155 1 GX4_points := by
  intro av m x m' hG
  unfold GX4_points at hG
  split at hG
  · rw [fX4_points_d] at hG
    exact ⟨qmeet (J := jI) (r := (x, m')) (av := [.ref 58]) (by decide +kernel) (Nat.le_of_ble_eq_true rfl) (fun C w h hm hx hn => sX4_points_0 h hm hx) ((lX4_points_0 _).trans hG) (Nat.le_of_ble_eq_true rfl), Or.inl ⟨58, _, 4, _, _, rfl, by decide, rfl, qCk_4, rfl⟩⟩
  · cases hG
theorem dX4_laidOfFamily_0 : decode cX4_laidOfFamily 0 = .ok (.aload_n 0, 1) := by decide +kernel
theorem dX4_laidOfFamily_1 : decode cX4_laidOfFamily 1 = .ok (.getfield 31, 3) := by decide +kernel
theorem dX4_laidOfFamily_4 : decode cX4_laidOfFamily 4 = .ok (.iload_n 1, 1) := by decide +kernel
theorem dX4_laidOfFamily_5 : decode cX4_laidOfFamily 5 = .ok (.iaload, 1) := by decide +kernel
theorem dX4_laidOfFamily_6 : decode cX4_laidOfFamily 6 = .ok (.ireturn, 1) := by decide +kernel
noncomputable def tX4_laidOfFamily_0 : qT (Int32 × qM) :=
  oLa 0 (oGf 58 8 65 (oLi 1 (oAi 65 15 (eI))))
set_option maxRecDepth 20000 in
theorem sX4_laidOfFamily_0 {C : qCx} {w : qWp} (h : qOk C w RX4 cX4_laidOfFamily 2 0 155 155) (hm : qMt C (some .int)) (hx : qNx C) : qSnd C w 2 155 (qQf C w 155 155 jI) qfin 155 0 (tX4_laidOfFamily_0) :=
  cLa (pc := 0) h dX4_laidOfFamily_0 rfl (gGf (pc := 1) h dX4_laidOfFamily_1 ff_X4_31_58 (Nat.le_of_ble_eq_true rfl) (Nat.le_of_ble_eq_true rfl) rfl (cLi (pc := 4) h dX4_laidOfFamily_4 rfl (rAi (pc := 5) h dX4_laidOfFamily_5 rfl (Nat.le_of_ble_eq_true rfl) (Nat.le_of_ble_eq_true rfl) (zI (pc := 6) h hm (Nat.le_refl _) dX4_laidOfFamily_6))))
set_option maxRecDepth 20000 in
theorem lX4_laidOfFamily_0 (a1 : Int32) (m : qM) : tX4_laidOfFamily_0 [some (.ref 58), some (.int a1)] [] m = fX4_laidOfFamily_0 a1 m := rfl
noncomputable def GX4_laidOfFamily : qG Int32 := fun av m => match av with
  | [.ref 58, .int a1] => fX4_laidOfFamily a1 m
  | _ => none
theorem spX4_laidOfFamily : qSpI yX4_laidOfFamily (.code yX4_laidOfFamily cX4_laidOfFamily 2 (some .int)) 0 qfin 155 155 1 GX4_laidOfFamily := by
  intro av m x m' hG
  unfold GX4_laidOfFamily at hG
  split at hG
  · rename_i a1
    rw [fX4_laidOfFamily_d] at hG
    exact ⟨qmeet (J := jI) (r := (x, m')) (av := [.ref 58, .int a1]) (by decide +kernel) (Nat.le_of_ble_eq_true rfl) (fun C w h hm hx hn => sX4_laidOfFamily_0 h hm hx) ((lX4_laidOfFamily_0 _ _).trans hG) (Nat.le_of_ble_eq_true rfl), Or.inl ⟨58, _, 4, _, _, rfl, by decide, rfl, qCk_4, rfl⟩⟩
  · cases hG
theorem dX4_addAsk_0 : decode cX4_addAsk 0 = .ok (.aload_n 0, 1) := by decide +kernel
theorem dX4_addAsk_1 : decode cX4_addAsk 1 = .ok (.getfield 40, 3) := by decide +kernel
theorem dX4_addAsk_4 : decode cX4_addAsk 4 = .ok (.bipush 40, 2) := by decide +kernel
theorem dX4_addAsk_6 : decode cX4_addAsk 6 = .ok (.if_icmp .lt 6, 3) := by decide +kernel
theorem dX4_addAsk_9 : decode cX4_addAsk 9 = .ok (.bipush (-3), 2) := by decide +kernel
theorem dX4_addAsk_11 : decode cX4_addAsk 11 = .ok (.ireturn, 1) := by decide +kernel
theorem dX4_addAsk_12 : decode cX4_addAsk 12 = .ok (.aload_n 0, 1) := by decide +kernel
theorem dX4_addAsk_13 : decode cX4_addAsk 13 = .ok (.getfield 40, 3) := by decide +kernel
theorem dX4_addAsk_16 : decode cX4_addAsk 16 = .ok (.istore 4, 2) := by decide +kernel
theorem dX4_addAsk_18 : decode cX4_addAsk 18 = .ok (.aload_n 0, 1) := by decide +kernel
theorem dX4_addAsk_19 : decode cX4_addAsk 19 = .ok (.dup, 1) := by decide +kernel
theorem dX4_addAsk_20 : decode cX4_addAsk 20 = .ok (.getfield 40, 3) := by decide +kernel
theorem dX4_addAsk_23 : decode cX4_addAsk 23 = .ok (.iconst 1, 1) := by decide +kernel
theorem dX4_addAsk_24 : decode cX4_addAsk 24 = .ok (.iadd, 1) := by decide +kernel
theorem dX4_addAsk_25 : decode cX4_addAsk 25 = .ok (.putfield 40, 3) := by decide +kernel
theorem dX4_addAsk_28 : decode cX4_addAsk 28 = .ok (.aload_n 0, 1) := by decide +kernel
theorem dX4_addAsk_29 : decode cX4_addAsk 29 = .ok (.getfield 9, 3) := by decide +kernel
theorem dX4_addAsk_32 : decode cX4_addAsk 32 = .ok (.iload 4, 2) := by decide +kernel
theorem dX4_addAsk_34 : decode cX4_addAsk 34 = .ok (.iload_n 1, 1) := by decide +kernel
theorem dX4_addAsk_35 : decode cX4_addAsk 35 = .ok (.iastore, 1) := by decide +kernel
theorem dX4_addAsk_36 : decode cX4_addAsk 36 = .ok (.aload_n 0, 1) := by decide +kernel
theorem dX4_addAsk_37 : decode cX4_addAsk 37 = .ok (.getfield 15, 3) := by decide +kernel
theorem dX4_addAsk_40 : decode cX4_addAsk 40 = .ok (.iload 4, 2) := by decide +kernel
theorem dX4_addAsk_42 : decode cX4_addAsk 42 = .ok (.iload_n 2, 1) := by decide +kernel
theorem dX4_addAsk_43 : decode cX4_addAsk 43 = .ok (.iastore, 1) := by decide +kernel
theorem dX4_addAsk_44 : decode cX4_addAsk 44 = .ok (.aload_n 0, 1) := by decide +kernel
theorem dX4_addAsk_45 : decode cX4_addAsk 45 = .ok (.getfield 18, 3) := by decide +kernel
theorem dX4_addAsk_48 : decode cX4_addAsk 48 = .ok (.iload 4, 2) := by decide +kernel
theorem dX4_addAsk_50 : decode cX4_addAsk 50 = .ok (.iload_n 3, 1) := by decide +kernel
theorem dX4_addAsk_51 : decode cX4_addAsk 51 = .ok (.bastore, 1) := by decide +kernel
theorem dX4_addAsk_52 : decode cX4_addAsk 52 = .ok (.aload_n 0, 1) := by decide +kernel
theorem dX4_addAsk_53 : decode cX4_addAsk 53 = .ok (.getfield 22, 3) := by decide +kernel
theorem dX4_addAsk_56 : decode cX4_addAsk 56 = .ok (.iload 4, 2) := by decide +kernel
theorem dX4_addAsk_58 : decode cX4_addAsk 58 = .ok (.iconst (-1), 1) := by decide +kernel
theorem dX4_addAsk_59 : decode cX4_addAsk 59 = .ok (.iastore, 1) := by decide +kernel
theorem dX4_addAsk_60 : decode cX4_addAsk 60 = .ok (.aload_n 0, 1) := by decide +kernel
theorem dX4_addAsk_61 : decode cX4_addAsk 61 = .ok (.getfield 25, 3) := by decide +kernel
theorem dX4_addAsk_64 : decode cX4_addAsk 64 = .ok (.iload_n 1, 1) := by decide +kernel
theorem dX4_addAsk_65 : decode cX4_addAsk 65 = .ok (.bipush 10, 2) := by decide +kernel
theorem dX4_addAsk_67 : decode cX4_addAsk 67 = .ok (.imul, 1) := by decide +kernel
theorem dX4_addAsk_68 : decode cX4_addAsk 68 = .ok (.iload_n 2, 1) := by decide +kernel
theorem dX4_addAsk_69 : decode cX4_addAsk 69 = .ok (.iadd, 1) := by decide +kernel
theorem dX4_addAsk_70 : decode cX4_addAsk 70 = .ok (.iload 4, 2) := by decide +kernel
theorem dX4_addAsk_72 : decode cX4_addAsk 72 = .ok (.iastore, 1) := by decide +kernel
theorem dX4_addAsk_73 : decode cX4_addAsk 73 = .ok (.iload_n 3, 1) := by decide +kernel
theorem dX4_addAsk_74 : decode cX4_addAsk 74 = .ok (.ifCond .eq 13, 3) := by decide +kernel
theorem dX4_addAsk_77 : decode cX4_addAsk 77 = .ok (.aload_n 0, 1) := by decide +kernel
theorem dX4_addAsk_78 : decode cX4_addAsk 78 = .ok (.dup, 1) := by decide +kernel
theorem dX4_addAsk_79 : decode cX4_addAsk 79 = .ok (.getfield 44, 3) := by decide +kernel
theorem dX4_addAsk_82 : decode cX4_addAsk 82 = .ok (.iconst 1, 1) := by decide +kernel
theorem dX4_addAsk_83 : decode cX4_addAsk 83 = .ok (.iadd, 1) := by decide +kernel
theorem dX4_addAsk_84 : decode cX4_addAsk 84 = .ok (.putfield 44, 3) := by decide +kernel
theorem dX4_addAsk_87 : decode cX4_addAsk 87 = .ok (.iload 4, 2) := by decide +kernel
theorem dX4_addAsk_89 : decode cX4_addAsk 89 = .ok (.ireturn, 1) := by decide +kernel
noncomputable def tX4_addAsk_52 : qT (Int32 × qM) :=
  oLi 4 (eI)
noncomputable def wX4_addAsk_52 (k : Int32 → qM → Option (Int32 × qM)) : qT (Int32 × qM) := fun lo st m => match lo, st with
  | [_, _, _, _, some (.int a4)], [] => k a4 m
  | _, _ => none
set_option maxRecDepth 20000 in
theorem sX4_addAsk_52 {C : qCx} {w : qWp} (h : qOk C w RX4 cX4_addAsk 5 0 155 155) (hm : qMt C (some .int)) (hx : qNx C) : qSnd C w 5 155 (qQf C w 155 155 jI) qfin 155 87 (tX4_addAsk_52) :=
  cLI (pc := 87) h dX4_addAsk_87 (zI (pc := 89) h hm (Nat.le_refl _) dX4_addAsk_89)
set_option maxRecDepth 20000 in
theorem lX4_addAsk_52 (a4 : Int32) (m : qM) : tX4_addAsk_52 [none, none, none, none, some (.int a4)] [] m = fX4_addAsk_52 a4 m := rfl
theorem bX4_addAsk_52 {C : qCx} {w : qWp} (h : qOk C w RX4 cX4_addAsk 5 0 155 155) (hm : qMt C (some .int)) (hx : qNx C) : qSnd C w 5 155 (qQf C w 155 155 jI) qfin 155 87 (wX4_addAsk_52 fX4_addAsk_52) :=
  qSnd_of (fun lo st m x hr0 => by
    unfold wX4_addAsk_52 at hr0
    split at hr0
    · exact ⟨_, (qsub_n (qsub_n (qsub_n (qsub_n (qsub_e qsub_nil))))), (lX4_addAsk_52 _ _).trans hr0⟩
    · cases hr0) (sX4_addAsk_52 h hm hx)
noncomputable def tX4_addAsk_0 (j52 : qT (Int32 × qM)) : qT (Int32 × qM) :=
  oLa 0 (oGi 58 11 (oC (.int (40 : Int32)) (oCLt (oLa 0 (oGi 58 11 (oSi 4 (oLa 0 (oDup (oGi 58 11 (oC (.int (1 : Int32)) (o2 (· + ·) (oPi 58 11 (oLa 0 (oGf 58 2 59 (oLi 4 (oLi 1 (oWi 59 40 (oLa 0 (oGf 58 3 60 (oLi 4 (oLi 2 (oWi 60 40 (oLa 0 (oGf 58 4 61 (oLi 4 (oLi 3 (oWz 61 40 (oLa 0 (oGf 58 5 62 (oLi 4 (oC (.int (-1 : Int32)) (oWi 62 40 (oLa 0 (oGf 58 6 63 (oLi 1 (oC (.int (10 : Int32)) (o2 (· * ·) (oLi 2 (o2 (· + ·) (oLi 4 (oWi 63 150 (oLi 3 (oEq (j52) (oLa 0 (oDup (oGi 58 12 (oC (.int (1 : Int32)) (o2 (· + ·) (oPi 58 12 (j52))))))))))))))))))))))))))))))))))))))))))))))) (oC (.int (-3 : Int32)) (eI)))))
set_option maxRecDepth 20000 in
theorem sX4_addAsk_0 {C : qCx} {w : qWp} (h : qOk C w RX4 cX4_addAsk 5 0 155 155) (hm : qMt C (some .int)) (hx : qNx C) {j52 : qT (Int32 × qM)} (k52 : qSnd C w 5 155 (qQf C w 155 155 jI) qfin 155 87 j52) : qSnd C w 5 155 (qQf C w 155 155 jI) qfin 155 0 (tX4_addAsk_0 j52) :=
  cLa (pc := 0) h dX4_addAsk_0 rfl (gGi (pc := 1) h dX4_addAsk_1 ff_X4_40_58 (Nat.le_of_ble_eq_true rfl) (Nat.le_of_ble_eq_true rfl) (cB (pc := 4) h dX4_addAsk_4 rfl (jCLt (pc := 6) h dX4_addAsk_6 rfl (cLa (pc := 12) h dX4_addAsk_12 rfl (gGi (pc := 13) h dX4_addAsk_13 ff_X4_40_58 (Nat.le_of_ble_eq_true rfl) (Nat.le_of_ble_eq_true rfl) (cSI (pc := 16) h dX4_addAsk_16 (cLa (pc := 18) h dX4_addAsk_18 rfl (aDup (pc := 19) h dX4_addAsk_19 (gGi (pc := 20) h dX4_addAsk_20 ff_X4_40_58 (Nat.le_of_ble_eq_true rfl) (Nat.le_of_ble_eq_true rfl) (cC (pc := 23) h dX4_addAsk_23 rfl (aAdd (pc := 24) h dX4_addAsk_24 (gPi (pc := 25) h dX4_addAsk_25 ff_X4_40_58 (Or.inl rfl) (Nat.le_of_ble_eq_true rfl) (Nat.le_of_ble_eq_true rfl) (cLa (pc := 28) h dX4_addAsk_28 rfl (gGf (pc := 29) h dX4_addAsk_29 ff_X4_9_58 (Nat.le_of_ble_eq_true rfl) (Nat.le_of_ble_eq_true rfl) rfl (cLI (pc := 32) h dX4_addAsk_32 (cLi (pc := 34) h dX4_addAsk_34 rfl (rWi (pc := 35) h dX4_addAsk_35 rfl (Nat.le_of_ble_eq_true rfl) (Nat.le_of_ble_eq_true rfl) (cLa (pc := 36) h dX4_addAsk_36 rfl (gGf (pc := 37) h dX4_addAsk_37 ff_X4_15_58 (Nat.le_of_ble_eq_true rfl) (Nat.le_of_ble_eq_true rfl) rfl (cLI (pc := 40) h dX4_addAsk_40 (cLi (pc := 42) h dX4_addAsk_42 rfl (rWi (pc := 43) h dX4_addAsk_43 rfl (Nat.le_of_ble_eq_true rfl) (Nat.le_of_ble_eq_true rfl) (cLa (pc := 44) h dX4_addAsk_44 rfl (gGf (pc := 45) h dX4_addAsk_45 ff_X4_18_58 (Nat.le_of_ble_eq_true rfl) (Nat.le_of_ble_eq_true rfl) rfl (cLI (pc := 48) h dX4_addAsk_48 (cLi (pc := 50) h dX4_addAsk_50 rfl (rWz (pc := 51) h dX4_addAsk_51 rfl (Nat.le_of_ble_eq_true rfl) (Nat.le_of_ble_eq_true rfl) (cLa (pc := 52) h dX4_addAsk_52 rfl (gGf (pc := 53) h dX4_addAsk_53 ff_X4_22_58 (Nat.le_of_ble_eq_true rfl) (Nat.le_of_ble_eq_true rfl) rfl (cLI (pc := 56) h dX4_addAsk_56 (cC (pc := 58) h dX4_addAsk_58 rfl (rWi (pc := 59) h dX4_addAsk_59 rfl (Nat.le_of_ble_eq_true rfl) (Nat.le_of_ble_eq_true rfl) (cLa (pc := 60) h dX4_addAsk_60 rfl (gGf (pc := 61) h dX4_addAsk_61 ff_X4_25_58 (Nat.le_of_ble_eq_true rfl) (Nat.le_of_ble_eq_true rfl) rfl (cLi (pc := 64) h dX4_addAsk_64 rfl (cB (pc := 65) h dX4_addAsk_65 rfl (aMul (pc := 67) h dX4_addAsk_67 (cLi (pc := 68) h dX4_addAsk_68 rfl (aAdd (pc := 69) h dX4_addAsk_69 (cLI (pc := 70) h dX4_addAsk_70 (rWi (pc := 72) h dX4_addAsk_72 rfl (Nat.le_of_ble_eq_true rfl) (Nat.le_of_ble_eq_true rfl) (cLi (pc := 73) h dX4_addAsk_73 rfl (jEq (pc := 74) h dX4_addAsk_74 rfl (k52) (cLa (pc := 77) h dX4_addAsk_77 rfl (aDup (pc := 78) h dX4_addAsk_78 (gGi (pc := 79) h dX4_addAsk_79 ff_X4_44_58 (Nat.le_of_ble_eq_true rfl) (Nat.le_of_ble_eq_true rfl) (cC (pc := 82) h dX4_addAsk_82 rfl (aAdd (pc := 83) h dX4_addAsk_83 (gPi (pc := 84) h dX4_addAsk_84 ff_X4_44_58 (Or.inl rfl) (Nat.le_of_ble_eq_true rfl) (Nat.le_of_ble_eq_true rfl) (k52))))))))))))))))))))))))))))))))))))))))))))))) (cB (pc := 9) h dX4_addAsk_9 rfl (zI (pc := 11) h hm (Nat.le_refl _) dX4_addAsk_11)))))
set_option maxRecDepth 20000 in
theorem lX4_addAsk_0 (a1 : Int32) (a2 : Int32) (a3 : Int32) (m : qM) : tX4_addAsk_0 (wX4_addAsk_52 fX4_addAsk_52) [some (.ref 58), some (.int a1), some (.int a2), some (.int a3), none] [] m = fX4_addAsk_0 a1 a2 a3 m := rfl
noncomputable def GX4_addAsk : qG Int32 := fun av m => match av with
  | [.ref 58, .int a1, .int a2, .int a3] => fX4_addAsk a1 a2 a3 m
  | _ => none
theorem spX4_addAsk : qSpI yX4_addAsk (.code yX4_addAsk cX4_addAsk 5 (some .int)) 0 qfin 155 155 1 GX4_addAsk := by
  intro av m x m' hG
  unfold GX4_addAsk at hG
  split at hG
  · rename_i a1 a2 a3
    rw [fX4_addAsk_d] at hG
    exact ⟨qmeet (J := jI) (r := (x, m')) (av := [.ref 58, .int a1, .int a2, .int a3]) (by decide +kernel) (Nat.le_of_ble_eq_true rfl) (fun C w h hm hx hn => sX4_addAsk_0 h hm hx (bX4_addAsk_52 h hm hx)) ((lX4_addAsk_0 _ _ _ _).trans hG) (Nat.le_of_ble_eq_true rfl), Or.inl ⟨58, _, 4, _, _, rfl, by decide, rfl, qCk_4, rfl⟩⟩
  · cases hG
theorem dX5_lines_0 : decode cX5_lines 0 = .ok (.aload_n 0, 1) := by decide +kernel
theorem dX5_lines_1 : decode cX5_lines 1 = .ok (.getfield 30, 3) := by decide +kernel
theorem dX5_lines_4 : decode cX5_lines 4 = .ok (.ireturn, 1) := by decide +kernel
noncomputable def tX5_lines_0 (r : Nat) : qT (Int32 × qM) :=
  oLa 0 (oGi r 6 (eI))
set_option maxRecDepth 20000 in
theorem sX5_lines_0 {C : qCx} {w : qWp} {r : Nat} (h : qOk C w RX5 cX5_lines 1 0 155 155) (hm : qMt C (some .int)) (hx : qNx C) (hr : qpol r = true) : qSnd C w 1 155 (qQf C w 155 155 jI) qfin 155 0 (tX5_lines_0 r) :=
  cLa (pc := 0) h dX5_lines_0 rfl (gGi (pc := 1) h dX5_lines_1 (ffp_X5_30_0 hr) (fp_hn_0 hr) (by decide) (zI (pc := 4) h hm (Nat.le_refl _) dX5_lines_4))
set_option maxRecDepth 20000 in
theorem lX5_lines_0 (r : Nat) (hr : qpol r = true) (m : qM) : tX5_lines_0 r [some (.ref r)] [] m = fX5_lines_0 r m := by
  rcases qpol_cases hr with rfl | rfl | rfl | rfl | rfl <;> rfl
noncomputable def GX5_lines : qG Int32 := fun av m => match av with
  | [.ref r] => bif qpol r then fX5_lines r m else none
  | _ => none
theorem spX5_lines : qSpI yX5_lines (.code yX5_lines cX5_lines 1 (some .int)) 0 qfin 155 155 1 GX5_lines := by
  intro av m x m' hG
  unfold GX5_lines at hG
  split at hG
  · rename_i r
    obtain ⟨hr, hG⟩ := qbt hG
    rw [fX5_lines_d] at hG
    exact ⟨qmeet (J := jI) (r := (x, m')) (av := [.ref r]) (by decide +kernel) (Nat.le_of_ble_eq_true rfl) (fun C w h hm hx hn => sX5_lines_0 h hm hx hr) ((lX5_lines_0 _ hr _).trans hG) (Nat.le_of_ble_eq_true rfl), qRc_pol hr rfl⟩
  · cases hG
theorem dX6_open_0 : decode cX6_open 0 = .ok (.aload_n 0, 1) := by decide +kernel
theorem dX6_open_1 : decode cX6_open 1 = .ok (.iconst 0, 1) := by decide +kernel
theorem dX6_open_2 : decode cX6_open 2 = .ok (.putfield 15, 3) := by decide +kernel
theorem dX6_open_5 : decode cX6_open 5 = .ok (.aload_n 0, 1) := by decide +kernel
theorem dX6_open_6 : decode cX6_open 6 = .ok (.iconst 0, 1) := by decide +kernel
theorem dX6_open_7 : decode cX6_open 7 = .ok (.putfield 18, 3) := by decide +kernel
theorem dX6_open_10 : decode cX6_open 10 = .ok (.aload_n 0, 1) := by decide +kernel
theorem dX6_open_11 : decode cX6_open 11 = .ok (.iconst 0, 1) := by decide +kernel
theorem dX6_open_12 : decode cX6_open 12 = .ok (.putfield 21, 3) := by decide +kernel
theorem dX6_open_15 : decode cX6_open 15 = .ok (.aload_n 0, 1) := by decide +kernel
theorem dX6_open_16 : decode cX6_open 16 = .ok (.iconst (-1), 1) := by decide +kernel
theorem dX6_open_17 : decode cX6_open 17 = .ok (.putfield 24, 3) := by decide +kernel
theorem dX6_open_20 : decode cX6_open 20 = .ok (.return_, 1) := by decide +kernel
noncomputable def tX6_open_0 : qT (Unit × qM) :=
  oLa 0 (oC (.int (0 : Int32)) (oPi 3 2 (oLa 0 (oC (.int (0 : Int32)) (oPi 3 3 (oLa 0 (oC (.int (0 : Int32)) (oPi 3 4 (oLa 0 (oC (.int (-1 : Int32)) (oPi 3 5 (eV))))))))))))
set_option maxRecDepth 20000 in
theorem sX6_open_0 {C : qCx} {w : qWp} (h : qOk C w RX6 cX6_open 1 0 155 155) (hm : qMt C none) (hx : qNx C) : qSnd C w 1 155 (qQf C w 155 155 jV) qfin 155 0 (tX6_open_0) :=
  cLa (pc := 0) h dX6_open_0 rfl (cC (pc := 1) h dX6_open_1 rfl (gPi (pc := 2) h dX6_open_2 ff_X6_15_3 (Or.inl rfl) (Nat.le_of_ble_eq_true rfl) (Nat.le_of_ble_eq_true rfl) (cLa (pc := 5) h dX6_open_5 rfl (cC (pc := 6) h dX6_open_6 rfl (gPi (pc := 7) h dX6_open_7 ff_X6_18_3 (Or.inl rfl) (Nat.le_of_ble_eq_true rfl) (Nat.le_of_ble_eq_true rfl) (cLa (pc := 10) h dX6_open_10 rfl (cC (pc := 11) h dX6_open_11 rfl (gPi (pc := 12) h dX6_open_12 ff_X6_21_3 (Or.inl rfl) (Nat.le_of_ble_eq_true rfl) (Nat.le_of_ble_eq_true rfl) (cLa (pc := 15) h dX6_open_15 rfl (cC (pc := 16) h dX6_open_16 rfl (gPi (pc := 17) h dX6_open_17 ff_X6_24_3 (Or.inl rfl) (Nat.le_of_ble_eq_true rfl) (Nat.le_of_ble_eq_true rfl) (zV (pc := 20) h hm (Nat.le_refl _) dX6_open_20))))))))))))
set_option maxRecDepth 20000 in
theorem lX6_open_0 (m : qM) : tX6_open_0 [some (.ref 3)] [] m = fX6_open_0 m := rfl
noncomputable def GX6_open : qG Unit := fun av m => match av with
  | [.ref 3] => fX6_open m
  | _ => none
theorem spX6_open : qSpV yX6_open (.code yX6_open cX6_open 1 none) 0 qfin 155 155 1 GX6_open := by
  intro av m m' hG
  unfold GX6_open at hG
  split at hG
  · rw [fX6_open_d] at hG
    exact ⟨qmeet (J := jV) (r := ((), m')) (av := [.ref 3]) (by decide +kernel) (Nat.le_of_ble_eq_true rfl) (fun C w h hm hx hn => sX6_open_0 h hm hx) ((lX6_open_0 _).trans hG) (Nat.le_of_ble_eq_true rfl), Or.inl ⟨3, _, 6, _, _, rfl, by decide, rfl, qCk_6, rfl⟩⟩
  · cases hG
theorem dX6_isBlank_0 : decode cX6_isBlank 0 = .ok (.iload_n 0, 1) := by decide +kernel
theorem dX6_isBlank_1 : decode cX6_isBlank 1 = .ok (.bipush 32, 2) := by decide +kernel
theorem dX6_isBlank_3 : decode cX6_isBlank 3 = .ok (.if_icmp .eq 9, 3) := by decide +kernel
theorem dX6_isBlank_6 : decode cX6_isBlank 6 = .ok (.iload_n 0, 1) := by decide +kernel
theorem dX6_isBlank_7 : decode cX6_isBlank 7 = .ok (.bipush 10, 2) := by decide +kernel
theorem dX6_isBlank_9 : decode cX6_isBlank 9 = .ok (.if_icmp .ne 7, 3) := by decide +kernel
theorem dX6_isBlank_12 : decode cX6_isBlank 12 = .ok (.iconst 1, 1) := by decide +kernel
theorem dX6_isBlank_13 : decode cX6_isBlank 13 = .ok (.goto 4, 3) := by decide +kernel
theorem dX6_isBlank_16 : decode cX6_isBlank 16 = .ok (.iconst 0, 1) := by decide +kernel
theorem dX6_isBlank_17 : decode cX6_isBlank 17 = .ok (.ireturn, 1) := by decide +kernel
noncomputable def tX6_isBlank_9 : qT (Int32 × qM) :=
  eZ
noncomputable def wX6_isBlank_9 (k : Int32 → qM → Option (Int32 × qM)) : qT (Int32 × qM) := fun lo st m => match lo, st with
  | [_], [.int s0] => k s0 m
  | _, _ => none
set_option maxRecDepth 20000 in
theorem sX6_isBlank_9 {C : qCx} {w : qWp} (h : qOk C w RX6 cX6_isBlank 1 0 155 155) (hm : qMt C (some .boolean)) (hx : qNx C) : qSnd C w 1 155 (qQf C w 155 155 jI) qfin 155 17 (tX6_isBlank_9) :=
  zZ (pc := 17) h hm (Nat.le_refl _) dX6_isBlank_17
set_option maxRecDepth 20000 in
theorem lX6_isBlank_9 (s0 : Int32) (m : qM) : tX6_isBlank_9 [none] [(.int s0)] m = fX6_isBlank_9 s0 m := rfl
theorem bX6_isBlank_9 {C : qCx} {w : qWp} (h : qOk C w RX6 cX6_isBlank 1 0 155 155) (hm : qMt C (some .boolean)) (hx : qNx C) : qSnd C w 1 155 (qQf C w 155 155 jI) qfin 155 17 (wX6_isBlank_9 fX6_isBlank_9) :=
  qSnd_of (fun lo st m x hr0 => by
    unfold wX6_isBlank_9 at hr0
    split at hr0
    · exact ⟨_, (qsub_n qsub_nil), (lX6_isBlank_9 _ _).trans hr0⟩
    · cases hr0) (sX6_isBlank_9 h hm hx)
noncomputable def tX6_isBlank_6 (j9 : qT (Int32 × qM)) : qT (Int32 × qM) :=
  oC (.int (1 : Int32)) (j9)
noncomputable def wX6_isBlank_6 (k : qM → Option (Int32 × qM)) : qT (Int32 × qM) := fun lo st m => match lo, st with
  | [_], [] => k m
  | _, _ => none
set_option maxRecDepth 20000 in
theorem sX6_isBlank_6 {C : qCx} {w : qWp} (h : qOk C w RX6 cX6_isBlank 1 0 155 155) (hm : qMt C (some .boolean)) (hx : qNx C) {j9 : qT (Int32 × qM)} (k9 : qSnd C w 1 155 (qQf C w 155 155 jI) qfin 155 17 j9) : qSnd C w 1 155 (qQf C w 155 155 jI) qfin 155 12 (tX6_isBlank_6 j9) :=
  cC (pc := 12) h dX6_isBlank_12 rfl (jGo (pc := 13) h dX6_isBlank_13 rfl (k9))
set_option maxRecDepth 20000 in
theorem lX6_isBlank_6 (m : qM) : tX6_isBlank_6 (wX6_isBlank_9 fX6_isBlank_9) [none] [] m = fX6_isBlank_6 m := rfl
theorem bX6_isBlank_6 {C : qCx} {w : qWp} (h : qOk C w RX6 cX6_isBlank 1 0 155 155) (hm : qMt C (some .boolean)) (hx : qNx C) : qSnd C w 1 155 (qQf C w 155 155 jI) qfin 155 12 (wX6_isBlank_6 fX6_isBlank_6) :=
  qSnd_of (fun lo st m x hr0 => by
    unfold wX6_isBlank_6 at hr0
    split at hr0
    · exact ⟨_, (qsub_n qsub_nil), (lX6_isBlank_6 _).trans hr0⟩
    · cases hr0) (sX6_isBlank_6 h hm hx (bX6_isBlank_9 h hm hx))
noncomputable def tX6_isBlank_0 (j6 : qT (Int32 × qM)) (j9 : qT (Int32 × qM)) : qT (Int32 × qM) :=
  oLi 0 (oC (.int (32 : Int32)) (oCEq (j6) (oLi 0 (oC (.int (10 : Int32)) (oCEq (j6) (oC (.int (0 : Int32)) (j9)))))))
set_option maxRecDepth 20000 in
theorem sX6_isBlank_0 {C : qCx} {w : qWp} (h : qOk C w RX6 cX6_isBlank 1 0 155 155) (hm : qMt C (some .boolean)) (hx : qNx C) {j6 : qT (Int32 × qM)} {j9 : qT (Int32 × qM)} (k6 : qSnd C w 1 155 (qQf C w 155 155 jI) qfin 155 12 j6) (k9 : qSnd C w 1 155 (qQf C w 155 155 jI) qfin 155 17 j9) : qSnd C w 1 155 (qQf C w 155 155 jI) qfin 155 0 (tX6_isBlank_0 j6 j9) :=
  cLi (pc := 0) h dX6_isBlank_0 rfl (cB (pc := 1) h dX6_isBlank_1 rfl (jCEq (pc := 3) h dX6_isBlank_3 rfl (k6) (cLi (pc := 6) h dX6_isBlank_6 rfl (cB (pc := 7) h dX6_isBlank_7 rfl (jCNe (pc := 9) h dX6_isBlank_9 rfl (cC (pc := 16) h dX6_isBlank_16 rfl (k9)) (k6))))))
set_option maxRecDepth 20000 in
theorem lX6_isBlank_0 (a0 : Int32) (m : qM) : tX6_isBlank_0 (wX6_isBlank_6 fX6_isBlank_6) (wX6_isBlank_9 fX6_isBlank_9) [some (.int a0)] [] m = fX6_isBlank_0 a0 m := rfl
noncomputable def GX6_isBlank : qG Int32 := fun av m => match av with
  | [.int a0] => fX6_isBlank a0 m
  | _ => none
theorem spX6_isBlank : qSpI yX6_isBlank (.code yX6_isBlank cX6_isBlank 1 (some .boolean)) 0 qfin 155 155 0 GX6_isBlank := by
  intro av m x m' hG
  unfold GX6_isBlank at hG
  split at hG
  · rename_i a0
    rw [fX6_isBlank_d] at hG
    exact ⟨qmeet (J := jI) (r := (x, m')) (av := [.int a0]) (by decide +kernel) (Nat.le_of_ble_eq_true rfl) (fun C w h hm hx hn => sX6_isBlank_0 h hm hx (bX6_isBlank_6 h hm hx) (bX6_isBlank_9 h hm hx)) ((lX6_isBlank_0 _ _).trans hG) (Nat.le_of_ble_eq_true rfl), trivial⟩
  · cases hG
theorem ml_X6_74 : Jvm.Cond.methodLinkNest RX6 74 yX11_within "ParentEve" ∈ qTw := qm3 (List.mem_of_getElem? (i := 22) (by decide +kernel)) (by decide +kernel)
theorem kd_X6_74 {C : qCx} {w : qWp} {cc : ByteArray} {nL dp n0 n1 pc : Nat} (h : qOk C w RX6 cc nL dp n0 n1) (d : decode cc pc = .ok (.invokestatic 74, 3)) : qCallOk C w nL dp n0 n1 pc 3 0 yX11_within (.code yX11_within cX11_within 3 (some .boolean)) := kindSN h d ml_X6_74 im_X11_within in_ParentEve co_X11_within yk_X11_within (by decide)
theorem dX6_isSmall_0 : decode cX6_isSmall 0 = .ok (.iload_n 0, 1) := by decide +kernel
theorem dX6_isSmall_1 : decode cX6_isSmall 1 = .ok (.bipush 97, 2) := by decide +kernel
theorem dX6_isSmall_3 : decode cX6_isSmall 3 = .ok (.bipush 122, 2) := by decide +kernel
theorem dX6_isSmall_5 : decode cX6_isSmall 5 = .ok (.invokestatic 74, 3) := by decide +kernel
theorem dX6_isSmall_8 : decode cX6_isSmall 8 = .ok (.ireturn, 1) := by decide +kernel
noncomputable def tX6_isSmall_0 : qT (Int32 × qM) :=
  oLi 0 (oC (.int (97 : Int32)) (oC (.int (122 : Int32)) (oCi GX11_within 3 (eZ))))
set_option maxRecDepth 20000 in
theorem sX6_isSmall_0 {C : qCx} {w : qWp} (h : qOk C w RX6 cX6_isSmall 1 1 155 155) (hm : qMt C (some .boolean)) (hx : qNx C) : qSnd C w 1 155 (qQf C w 155 155 jI) qfin 155 0 (tX6_isSmall_0) :=
  cLi (pc := 0) h dX6_isSmall_0 rfl (cB (pc := 1) h dX6_isSmall_1 rfl (cB (pc := 3) h dX6_isSmall_3 rfl (kCi (pc := 5) h (kd_X6_74 h dX6_isSmall_5) spX11_within (by decide) (by decide) (by decide) (by decide) (zZ (pc := 8) h hm (Nat.le_refl _) dX6_isSmall_8))))
set_option maxRecDepth 20000 in
theorem lX6_isSmall_0 (a0 : Int32) (m : qM) : tX6_isSmall_0 [some (.int a0)] [] m = fX6_isSmall_0 a0 m := rfl
noncomputable def GX6_isSmall : qG Int32 := fun av m => match av with
  | [.int a0] => fX6_isSmall a0 m
  | _ => none
theorem spX6_isSmall : qSpI yX6_isSmall (.code yX6_isSmall cX6_isSmall 1 (some .boolean)) 1 qfin 155 155 0 GX6_isSmall := by
  intro av m x m' hG
  unfold GX6_isSmall at hG
  split at hG
  · rename_i a0
    rw [fX6_isSmall_d] at hG
    exact ⟨qmeet (J := jI) (r := (x, m')) (av := [.int a0]) (by decide +kernel) (Nat.le_of_ble_eq_true rfl) (fun C w h hm hx hn => sX6_isSmall_0 h hm hx) ((lX6_isSmall_0 _ _).trans hG) (Nat.le_of_ble_eq_true rfl), trivial⟩
  · cases hG
theorem dX6_isDigit_0 : decode cX6_isDigit 0 = .ok (.iload_n 0, 1) := by decide +kernel
theorem dX6_isDigit_1 : decode cX6_isDigit 1 = .ok (.bipush 48, 2) := by decide +kernel
theorem dX6_isDigit_3 : decode cX6_isDigit 3 = .ok (.bipush 57, 2) := by decide +kernel
theorem dX6_isDigit_5 : decode cX6_isDigit 5 = .ok (.invokestatic 74, 3) := by decide +kernel
theorem dX6_isDigit_8 : decode cX6_isDigit 8 = .ok (.ireturn, 1) := by decide +kernel
noncomputable def tX6_isDigit_0 : qT (Int32 × qM) :=
  oLi 0 (oC (.int (48 : Int32)) (oC (.int (57 : Int32)) (oCi GX11_within 3 (eZ))))
set_option maxRecDepth 20000 in
theorem sX6_isDigit_0 {C : qCx} {w : qWp} (h : qOk C w RX6 cX6_isDigit 1 1 155 155) (hm : qMt C (some .boolean)) (hx : qNx C) : qSnd C w 1 155 (qQf C w 155 155 jI) qfin 155 0 (tX6_isDigit_0) :=
  cLi (pc := 0) h dX6_isDigit_0 rfl (cB (pc := 1) h dX6_isDigit_1 rfl (cB (pc := 3) h dX6_isDigit_3 rfl (kCi (pc := 5) h (kd_X6_74 h dX6_isDigit_5) spX11_within (by decide) (by decide) (by decide) (by decide) (zZ (pc := 8) h hm (Nat.le_refl _) dX6_isDigit_8))))
set_option maxRecDepth 20000 in
theorem lX6_isDigit_0 (a0 : Int32) (m : qM) : tX6_isDigit_0 [some (.int a0)] [] m = fX6_isDigit_0 a0 m := rfl
noncomputable def GX6_isDigit : qG Int32 := fun av m => match av with
  | [.int a0] => fX6_isDigit a0 m
  | _ => none
theorem spX6_isDigit : qSpI yX6_isDigit (.code yX6_isDigit cX6_isDigit 1 (some .boolean)) 1 qfin 155 155 0 GX6_isDigit := by
  intro av m x m' hG
  unfold GX6_isDigit at hG
  split at hG
  · rename_i a0
    rw [fX6_isDigit_d] at hG
    exact ⟨qmeet (J := jI) (r := (x, m')) (av := [.int a0]) (by decide +kernel) (Nat.le_of_ble_eq_true rfl) (fun C w h hm hx hn => sX6_isDigit_0 h hm hx) ((lX6_isDigit_0 _ _).trans hG) (Nat.le_of_ble_eq_true rfl), trivial⟩
  · cases hG
theorem ml_X6_31 : Jvm.Cond.methodLink RX6 31 yX8_size ∈ qTw := qm3 (List.mem_of_getElem? (i := 11) (by decide +kernel)) (by decide +kernel)
theorem kd_X6_31 {C : qCx} {w : qWp} {cc : ByteArray} {nL dp n0 n1 pc : Nat} (h : qOk C w RX6 cc nL dp n0 n1) (d : decode cc pc = .ok (.invokevirtual 31, 3)) : qCallOk C w nL dp n0 n1 pc 1 1 yX8_size (.code yX8_size cX8_size 1 (some .int)) := kindV h d ml_X6_31 im_X8_size se_X8_size in_ParentEve_Tape co_X8_size yk_X8_size (by decide)
theorem ml_X6_37 : Jvm.Cond.methodLink RX6 37 yX8_byteAt ∈ qTw := qm3 (List.mem_of_getElem? (i := 12) (by decide +kernel)) (by decide +kernel)
theorem kd_X6_37 {C : qCx} {w : qWp} {cc : ByteArray} {nL dp n0 n1 pc : Nat} (h : qOk C w RX6 cc nL dp n0 n1) (d : decode cc pc = .ok (.invokevirtual 37, 3)) : qCallOk C w nL dp n0 n1 pc 2 1 yX8_byteAt (.code yX8_byteAt cX8_byteAt 2 (some .int)) := kindV h d ml_X6_37 im_X8_byteAt se_X8_byteAt in_ParentEve_Tape co_X8_byteAt yk_X8_byteAt (by decide)
theorem im_X6_isBlank : Jvm.Cond.static yX6_isBlank ∈ qTw := qm3 (List.mem_of_getElem? (i := 17) (by decide +kernel)) (by decide +kernel)
theorem co_X6_isBlank : Jvm.Cond.code yX6_isBlank cX6_isBlank 1 (some .boolean) ∈ qTw := qm3 (List.mem_of_getElem? (i := 18) (by decide +kernel)) (by decide +kernel)
theorem yk_X6_isBlank : qYk yX6_isBlank 1 := ⟨⟨by decide +kernel, by decide +kernel⟩, by decide +kernel⟩
theorem ml_X6_41 : Jvm.Cond.methodLink RX6 41 yX6_isBlank ∈ qTw := qm3 (List.mem_of_getElem? (i := 16) (by decide +kernel)) (by decide +kernel)
theorem kd_X6_41 {C : qCx} {w : qWp} {cc : ByteArray} {nL dp n0 n1 pc : Nat} (h : qOk C w RX6 cc nL dp n0 n1) (d : decode cc pc = .ok (.invokestatic 41, 3)) : qCallOk C w nL dp n0 n1 pc 1 0 yX6_isBlank (.code yX6_isBlank cX6_isBlank 1 (some .boolean)) := kindS h d ml_X6_41 im_X6_isBlank in_ParentEve_Reader co_X6_isBlank yk_X6_isBlank (by decide)
theorem im_X6_isSmall : Jvm.Cond.static yX6_isSmall ∈ qTw := qm3 (List.mem_of_getElem? (i := 20) (by decide +kernel)) (by decide +kernel)
theorem co_X6_isSmall : Jvm.Cond.code yX6_isSmall cX6_isSmall 1 (some .boolean) ∈ qTw := qm3 (List.mem_of_getElem? (i := 21) (by decide +kernel)) (by decide +kernel)
theorem yk_X6_isSmall : qYk yX6_isSmall 1 := ⟨⟨by decide +kernel, by decide +kernel⟩, by decide +kernel⟩
theorem ml_X6_45 : Jvm.Cond.methodLink RX6 45 yX6_isSmall ∈ qTw := qm3 (List.mem_of_getElem? (i := 19) (by decide +kernel)) (by decide +kernel)
theorem kd_X6_45 {C : qCx} {w : qWp} {cc : ByteArray} {nL dp n0 n1 pc : Nat} (h : qOk C w RX6 cc nL dp n0 n1) (d : decode cc pc = .ok (.invokestatic 45, 3)) : qCallOk C w nL dp n0 n1 pc 1 0 yX6_isSmall (.code yX6_isSmall cX6_isSmall 1 (some .boolean)) := kindS h d ml_X6_45 im_X6_isSmall in_ParentEve_Reader co_X6_isSmall yk_X6_isSmall (by decide)
theorem im_X6_isDigit : Jvm.Cond.static yX6_isDigit ∈ qTw := qm3 (List.mem_of_getElem? (i := 24) (by decide +kernel)) (by decide +kernel)
theorem co_X6_isDigit : Jvm.Cond.code yX6_isDigit cX6_isDigit 1 (some .boolean) ∈ qTw := qm3 (List.mem_of_getElem? (i := 25) (by decide +kernel)) (by decide +kernel)
theorem yk_X6_isDigit : qYk yX6_isDigit 1 := ⟨⟨by decide +kernel, by decide +kernel⟩, by decide +kernel⟩
theorem ml_X6_48 : Jvm.Cond.methodLink RX6 48 yX6_isDigit ∈ qTw := qm3 (List.mem_of_getElem? (i := 23) (by decide +kernel)) (by decide +kernel)
theorem kd_X6_48 {C : qCx} {w : qWp} {cc : ByteArray} {nL dp n0 n1 pc : Nat} (h : qOk C w RX6 cc nL dp n0 n1) (d : decode cc pc = .ok (.invokestatic 48, 3)) : qCallOk C w nL dp n0 n1 pc 1 0 yX6_isDigit (.code yX6_isDigit cX6_isDigit 1 (some .boolean)) := kindS h d ml_X6_48 im_X6_isDigit in_ParentEve_Reader co_X6_isDigit yk_X6_isDigit (by decide)
theorem dX6_step_0 : decode cX6_step 0 = .ok (.aload_n 0, 1) := by decide +kernel
theorem dX6_step_1 : decode cX6_step 1 = .ok (.aload_n 0, 1) := by decide +kernel
theorem dX6_step_2 : decode cX6_step 2 = .ok (.getfield 18, 3) := by decide +kernel
theorem dX6_step_5 : decode cX6_step 5 = .ok (.putfield 15, 3) := by decide +kernel
theorem dX6_step_8 : decode cX6_step 8 = .ok (.aload_n 0, 1) := by decide +kernel
theorem dX6_step_9 : decode cX6_step 9 = .ok (.getfield 15, 3) := by decide +kernel
theorem dX6_step_12 : decode cX6_step 12 = .ok (.aload_n 0, 1) := by decide +kernel
theorem dX6_step_13 : decode cX6_step 13 = .ok (.getfield 27, 3) := by decide +kernel
theorem dX6_step_16 : decode cX6_step 16 = .ok (.invokevirtual 31, 3) := by decide +kernel
theorem dX6_step_19 : decode cX6_step 19 = .ok (.if_icmp .ge 33, 3) := by decide +kernel
theorem dX6_step_22 : decode cX6_step 22 = .ok (.aload_n 0, 1) := by decide +kernel
theorem dX6_step_23 : decode cX6_step 23 = .ok (.getfield 27, 3) := by decide +kernel
theorem dX6_step_26 : decode cX6_step 26 = .ok (.aload_n 0, 1) := by decide +kernel
theorem dX6_step_27 : decode cX6_step 27 = .ok (.getfield 15, 3) := by decide +kernel
theorem dX6_step_30 : decode cX6_step 30 = .ok (.invokevirtual 37, 3) := by decide +kernel
theorem dX6_step_33 : decode cX6_step 33 = .ok (.invokestatic 41, 3) := by decide +kernel
theorem dX6_step_36 : decode cX6_step 36 = .ok (.ifCond .eq 16, 3) := by decide +kernel
theorem dX6_step_39 : decode cX6_step 39 = .ok (.aload_n 0, 1) := by decide +kernel
theorem dX6_step_40 : decode cX6_step 40 = .ok (.dup, 1) := by decide +kernel
theorem dX6_step_41 : decode cX6_step 41 = .ok (.getfield 15, 3) := by decide +kernel
theorem dX6_step_44 : decode cX6_step 44 = .ok (.iconst 1, 1) := by decide +kernel
theorem dX6_step_45 : decode cX6_step 45 = .ok (.iadd, 1) := by decide +kernel
theorem dX6_step_46 : decode cX6_step 46 = .ok (.putfield 15, 3) := by decide +kernel
theorem dX6_step_49 : decode cX6_step 49 = .ok (.goto (-41), 3) := by decide +kernel
theorem dX6_step_52 : decode cX6_step 52 = .ok (.aload_n 0, 1) := by decide +kernel
theorem dX6_step_53 : decode cX6_step 53 = .ok (.aload_n 0, 1) := by decide +kernel
theorem dX6_step_54 : decode cX6_step 54 = .ok (.getfield 15, 3) := by decide +kernel
theorem dX6_step_57 : decode cX6_step 57 = .ok (.putfield 18, 3) := by decide +kernel
theorem dX6_step_60 : decode cX6_step 60 = .ok (.aload_n 0, 1) := by decide +kernel
theorem dX6_step_61 : decode cX6_step 61 = .ok (.getfield 27, 3) := by decide +kernel
theorem dX6_step_64 : decode cX6_step 64 = .ok (.aload_n 0, 1) := by decide +kernel
theorem dX6_step_65 : decode cX6_step 65 = .ok (.getfield 15, 3) := by decide +kernel
theorem dX6_step_68 : decode cX6_step 68 = .ok (.invokevirtual 37, 3) := by decide +kernel
theorem dX6_step_71 : decode cX6_step 71 = .ok (.istore_n 1, 1) := by decide +kernel
theorem dX6_step_72 : decode cX6_step 72 = .ok (.iload_n 1, 1) := by decide +kernel
theorem dX6_step_73 : decode cX6_step 73 = .ok (.iconst (-1), 1) := by decide +kernel
theorem dX6_step_74 : decode cX6_step 74 = .ok (.if_icmp .ne 11, 3) := by decide +kernel
theorem dX6_step_77 : decode cX6_step 77 = .ok (.aload_n 0, 1) := by decide +kernel
theorem dX6_step_78 : decode cX6_step 78 = .ok (.iconst 0, 1) := by decide +kernel
theorem dX6_step_79 : decode cX6_step 79 = .ok (.putfield 11, 3) := by decide +kernel
theorem dX6_step_82 : decode cX6_step 82 = .ok (.goto 155, 3) := by decide +kernel
theorem dX6_step_85 : decode cX6_step 85 = .ok (.iload_n 1, 1) := by decide +kernel
theorem dX6_step_86 : decode cX6_step 86 = .ok (.invokestatic 45, 3) := by decide +kernel
theorem dX6_step_89 : decode cX6_step 89 = .ok (.ifCond .eq 51, 3) := by decide +kernel
theorem dX6_step_92 : decode cX6_step 92 = .ok (.aload_n 0, 1) := by decide +kernel
theorem dX6_step_93 : decode cX6_step 93 = .ok (.getfield 27, 3) := by decide +kernel
theorem dX6_step_96 : decode cX6_step 96 = .ok (.aload_n 0, 1) := by decide +kernel
theorem dX6_step_97 : decode cX6_step 97 = .ok (.getfield 18, 3) := by decide +kernel
theorem dX6_step_100 : decode cX6_step 100 = .ok (.invokevirtual 37, 3) := by decide +kernel
theorem dX6_step_103 : decode cX6_step 103 = .ok (.invokestatic 45, 3) := by decide +kernel
theorem dX6_step_106 : decode cX6_step 106 = .ok (.ifCond .eq 26, 3) := by decide +kernel
theorem dX6_step_109 : decode cX6_step 109 = .ok (.aload_n 0, 1) := by decide +kernel
theorem dX6_step_110 : decode cX6_step 110 = .ok (.getfield 18, 3) := by decide +kernel
theorem dX6_step_113 : decode cX6_step 113 = .ok (.sipush 400, 3) := by decide +kernel
theorem dX6_step_116 : decode cX6_step 116 = .ok (.if_icmp .ge 16, 3) := by decide +kernel
theorem dX6_step_119 : decode cX6_step 119 = .ok (.aload_n 0, 1) := by decide +kernel
theorem dX6_step_120 : decode cX6_step 120 = .ok (.dup, 1) := by decide +kernel
theorem dX6_step_121 : decode cX6_step 121 = .ok (.getfield 18, 3) := by decide +kernel
theorem dX6_step_124 : decode cX6_step 124 = .ok (.iconst 1, 1) := by decide +kernel
theorem dX6_step_125 : decode cX6_step 125 = .ok (.iadd, 1) := by decide +kernel
theorem dX6_step_126 : decode cX6_step 126 = .ok (.putfield 18, 3) := by decide +kernel
theorem dX6_step_129 : decode cX6_step 129 = .ok (.goto (-37), 3) := by decide +kernel
theorem dX6_step_132 : decode cX6_step 132 = .ok (.aload_n 0, 1) := by decide +kernel
theorem dX6_step_133 : decode cX6_step 133 = .ok (.iconst 1, 1) := by decide +kernel
theorem dX6_step_134 : decode cX6_step 134 = .ok (.putfield 11, 3) := by decide +kernel
theorem dX6_step_137 : decode cX6_step 137 = .ok (.goto 100, 3) := by decide +kernel
theorem dX6_step_140 : decode cX6_step 140 = .ok (.iload_n 1, 1) := by decide +kernel
theorem dX6_step_141 : decode cX6_step 141 = .ok (.invokestatic 48, 3) := by decide +kernel
theorem dX6_step_144 : decode cX6_step 144 = .ok (.ifCond .eq 68, 3) := by decide +kernel
theorem dX6_step_147 : decode cX6_step 147 = .ok (.aload_n 0, 1) := by decide +kernel
theorem dX6_step_148 : decode cX6_step 148 = .ok (.getfield 27, 3) := by decide +kernel
theorem dX6_step_151 : decode cX6_step 151 = .ok (.aload_n 0, 1) := by decide +kernel
theorem dX6_step_152 : decode cX6_step 152 = .ok (.getfield 18, 3) := by decide +kernel
theorem dX6_step_155 : decode cX6_step 155 = .ok (.invokevirtual 37, 3) := by decide +kernel
theorem dX6_step_158 : decode cX6_step 158 = .ok (.invokestatic 48, 3) := by decide +kernel
theorem dX6_step_161 : decode cX6_step 161 = .ok (.ifCond .eq 26, 3) := by decide +kernel
theorem dX6_step_164 : decode cX6_step 164 = .ok (.aload_n 0, 1) := by decide +kernel
theorem dX6_step_165 : decode cX6_step 165 = .ok (.getfield 18, 3) := by decide +kernel
theorem dX6_step_168 : decode cX6_step 168 = .ok (.sipush 400, 3) := by decide +kernel
theorem dX6_step_171 : decode cX6_step 171 = .ok (.if_icmp .ge 16, 3) := by decide +kernel
theorem dX6_step_174 : decode cX6_step 174 = .ok (.aload_n 0, 1) := by decide +kernel
theorem dX6_step_175 : decode cX6_step 175 = .ok (.dup, 1) := by decide +kernel
theorem dX6_step_176 : decode cX6_step 176 = .ok (.getfield 18, 3) := by decide +kernel
theorem dX6_step_179 : decode cX6_step 179 = .ok (.iconst 1, 1) := by decide +kernel
theorem dX6_step_180 : decode cX6_step 180 = .ok (.iadd, 1) := by decide +kernel
theorem dX6_step_181 : decode cX6_step 181 = .ok (.putfield 18, 3) := by decide +kernel
theorem dX6_step_184 : decode cX6_step 184 = .ok (.goto (-37), 3) := by decide +kernel
theorem dX6_step_187 : decode cX6_step 187 = .ok (.aload_n 0, 1) := by decide +kernel
theorem dX6_step_188 : decode cX6_step 188 = .ok (.aload_n 0, 1) := by decide +kernel
theorem dX6_step_189 : decode cX6_step 189 = .ok (.getfield 18, 3) := by decide +kernel
theorem dX6_step_192 : decode cX6_step 192 = .ok (.aload_n 0, 1) := by decide +kernel
theorem dX6_step_193 : decode cX6_step 193 = .ok (.getfield 15, 3) := by decide +kernel
theorem dX6_step_196 : decode cX6_step 196 = .ok (.isub, 1) := by decide +kernel
theorem dX6_step_197 : decode cX6_step 197 = .ok (.iconst 3, 1) := by decide +kernel
theorem dX6_step_198 : decode cX6_step 198 = .ok (.if_icmp .le 7, 3) := by decide +kernel
theorem dX6_step_201 : decode cX6_step 201 = .ok (.iconst 4, 1) := by decide +kernel
theorem dX6_step_202 : decode cX6_step 202 = .ok (.goto 4, 3) := by decide +kernel
theorem dX6_step_205 : decode cX6_step 205 = .ok (.iconst 2, 1) := by decide +kernel
theorem dX6_step_206 : decode cX6_step 206 = .ok (.putfield 11, 3) := by decide +kernel
theorem dX6_step_209 : decode cX6_step 209 = .ok (.goto 28, 3) := by decide +kernel
theorem dX6_step_212 : decode cX6_step 212 = .ok (.aload_n 0, 1) := by decide +kernel
theorem dX6_step_213 : decode cX6_step 213 = .ok (.aload_n 0, 1) := by decide +kernel
theorem dX6_step_214 : decode cX6_step 214 = .ok (.getfield 15, 3) := by decide +kernel
theorem dX6_step_217 : decode cX6_step 217 = .ok (.iconst 1, 1) := by decide +kernel
theorem dX6_step_218 : decode cX6_step 218 = .ok (.iadd, 1) := by decide +kernel
theorem dX6_step_219 : decode cX6_step 219 = .ok (.putfield 18, 3) := by decide +kernel
theorem dX6_step_222 : decode cX6_step 222 = .ok (.aload_n 0, 1) := by decide +kernel
theorem dX6_step_223 : decode cX6_step 223 = .ok (.iload_n 1, 1) := by decide +kernel
theorem dX6_step_224 : decode cX6_step 224 = .ok (.bipush 59, 2) := by decide +kernel
theorem dX6_step_226 : decode cX6_step 226 = .ok (.if_icmp .ne 7, 3) := by decide +kernel
theorem dX6_step_229 : decode cX6_step 229 = .ok (.iconst 3, 1) := by decide +kernel
theorem dX6_step_230 : decode cX6_step 230 = .ok (.goto 4, 3) := by decide +kernel
theorem dX6_step_233 : decode cX6_step 233 = .ok (.iconst 4, 1) := by decide +kernel
theorem dX6_step_234 : decode cX6_step 234 = .ok (.putfield 11, 3) := by decide +kernel
theorem dX6_step_237 : decode cX6_step 237 = .ok (.return_, 1) := by decide +kernel
noncomputable def tX6_step_4 (j24 : qT (Unit × qM)) (j4 : qT (Unit × qM)) : qT (Unit × qM) :=
  oLa 0 (oGi 3 2 (oLa 0 (oGf 3 0 1 (oCi GX8_size 1 (oCGe (j24) (oLa 0 (oGf 3 0 1 (oLa 0 (oGi 3 2 (oCi GX8_byteAt 2 (oCi GX6_isBlank 1 (oEq (j24) (oLa 0 (oDup (oGi 3 2 (oC (.int (1 : Int32)) (o2 (· + ·) (oPi 3 2 (j4)))))))))))))))))))
noncomputable def wX6_step_4 (k : qM → Option (Unit × qM)) : qT (Unit × qM) := fun lo st m => match lo, st with
  | [some (.ref 3), _], [] => k m
  | _, _ => none
noncomputable def wX6_step_24 (k : qM → Option (Unit × qM)) : qT (Unit × qM) := fun lo st m => match lo, st with
  | [some (.ref 3), _], [] => k m
  | _, _ => none
set_option maxRecDepth 20000 in
theorem sX6_step_4 {C : qCx} {w : qWp} (h : qOk C w RX6 cX6_step 2 2 155 155) (hm : qMt C none) (hx : qNx C) {j24 : qT (Unit × qM)} {j4 : qT (Unit × qM)} (k24 : qSnd C w 2 155 (qQf C w 155 155 jV) qfin 155 52 j24) (k4 : qSnd C w 2 155 (qQf C w 155 155 jV) qfin 155 8 j4) : qSnd C w 2 155 (qQf C w 155 155 jV) qfin 155 8 (tX6_step_4 j24 j4) :=
  cLa (pc := 8) h dX6_step_8 rfl (gGi (pc := 9) h dX6_step_9 ff_X6_15_3 (Nat.le_of_ble_eq_true rfl) (Nat.le_of_ble_eq_true rfl) (cLa (pc := 12) h dX6_step_12 rfl (gGf (pc := 13) h dX6_step_13 ff_X6_27_3 (Nat.le_of_ble_eq_true rfl) (Nat.le_of_ble_eq_true rfl) rfl (kCi (pc := 16) h (kd_X6_31 h dX6_step_16) spX8_size (by decide) (by decide) (by decide) (by decide) (jCGe (pc := 19) h dX6_step_19 rfl (k24) (cLa (pc := 22) h dX6_step_22 rfl (gGf (pc := 23) h dX6_step_23 ff_X6_27_3 (Nat.le_of_ble_eq_true rfl) (Nat.le_of_ble_eq_true rfl) rfl (cLa (pc := 26) h dX6_step_26 rfl (gGi (pc := 27) h dX6_step_27 ff_X6_15_3 (Nat.le_of_ble_eq_true rfl) (Nat.le_of_ble_eq_true rfl) (kCi (pc := 30) h (kd_X6_37 h dX6_step_30) spX8_byteAt (by decide) (by decide) (by decide) (by decide) (kCi (pc := 33) h (kd_X6_41 h dX6_step_33) spX6_isBlank (by decide) (by decide) (by decide) (by decide) (jEq (pc := 36) h dX6_step_36 rfl (k24) (cLa (pc := 39) h dX6_step_39 rfl (aDup (pc := 40) h dX6_step_40 (gGi (pc := 41) h dX6_step_41 ff_X6_15_3 (Nat.le_of_ble_eq_true rfl) (Nat.le_of_ble_eq_true rfl) (cC (pc := 44) h dX6_step_44 rfl (aAdd (pc := 45) h dX6_step_45 (gPi (pc := 46) h dX6_step_46 ff_X6_15_3 (Or.inl rfl) (Nat.le_of_ble_eq_true rfl) (Nat.le_of_ble_eq_true rfl) (jGo (pc := 49) h dX6_step_49 rfl (k4))))))))))))))))))))
set_option maxRecDepth 20000 in
theorem lX6_step_4 (k24 : qM → Option (Unit × qM)) (n : Nat) (m : qM) : tX6_step_4 (wX6_step_24 k24) (wX6_step_4 ((fX6_step_4 k24 n))) [some (.ref 3), none] [] m = fX6_step_4 k24 (n + 1) m := rfl
theorem bX6_step_4 {C : qCx} {w : qWp} (h : qOk C w RX6 cX6_step 2 2 155 155) (hm : qMt C none) (hx : qNx C) {k24 : qM → Option (Unit × qM)} (h24 : qSnd C w 2 155 (qQf C w 155 155 jV) qfin 155 52 (wX6_step_24 k24)) : ∀ n : Nat, qSnd C w 2 155 (qQf C w 155 155 jV) qfin 155 8 (wX6_step_4 (fX6_step_4 k24 n))
  | 0 => qSnd_of0 (fun lo st m x hr0 => by
    unfold wX6_step_4 at hr0
    split at hr0
    · cases hr0
    · cases hr0)
  | n + 1 => by
    have ih := bX6_step_4 h hm hx h24 n
    exact qSnd_of (fun lo st m x hr0 => by
    unfold wX6_step_4 at hr0
    split at hr0
    · exact ⟨_, (qsub_e (qsub_n qsub_nil)), (lX6_step_4 _ n _).trans hr0⟩
    · cases hr0) (sX6_step_4 h hm hx h24 ih)
noncomputable def tX6_step_114 : qT (Unit × qM) :=
  eV
noncomputable def wX6_step_114 (k : qM → Option (Unit × qM)) : qT (Unit × qM) := fun lo st m => match lo, st with
  | [_, _], [] => k m
  | _, _ => none
set_option maxRecDepth 20000 in
theorem sX6_step_114 {C : qCx} {w : qWp} (h : qOk C w RX6 cX6_step 2 2 155 155) (hm : qMt C none) (hx : qNx C) : qSnd C w 2 155 (qQf C w 155 155 jV) qfin 155 237 (tX6_step_114) :=
  zV (pc := 237) h hm (Nat.le_refl _) dX6_step_237
set_option maxRecDepth 20000 in
theorem lX6_step_114 (m : qM) : tX6_step_114 [none, none] [] m = fX6_step_114 m := rfl
theorem bX6_step_114 {C : qCx} {w : qWp} (h : qOk C w RX6 cX6_step 2 2 155 155) (hm : qMt C none) (hx : qNx C) : qSnd C w 2 155 (qQf C w 155 155 jV) qfin 155 237 (wX6_step_114 fX6_step_114) :=
  qSnd_of (fun lo st m x hr0 => by
    unfold wX6_step_114 at hr0
    split at hr0
    · exact ⟨_, (qsub_n (qsub_n qsub_nil)), (lX6_step_114 _).trans hr0⟩
    · cases hr0) (sX6_step_114 h hm hx)
noncomputable def tX6_step_113 (j114 : qT (Unit × qM)) : qT (Unit × qM) :=
  oPi 3 1 (j114)
noncomputable def wX6_step_113 (k : Int32 → qM → Option (Unit × qM)) : qT (Unit × qM) := fun lo st m => match lo, st with
  | [_, _], [.int s0, .ref 3] => k s0 m
  | _, _ => none
set_option maxRecDepth 20000 in
theorem sX6_step_113 {C : qCx} {w : qWp} (h : qOk C w RX6 cX6_step 2 2 155 155) (hm : qMt C none) (hx : qNx C) {j114 : qT (Unit × qM)} (k114 : qSnd C w 2 155 (qQf C w 155 155 jV) qfin 155 237 j114) : qSnd C w 2 155 (qQf C w 155 155 jV) qfin 155 234 (tX6_step_113 j114) :=
  gPi (pc := 234) h dX6_step_234 ff_X6_11_3 (Or.inl rfl) (Nat.le_of_ble_eq_true rfl) (Nat.le_of_ble_eq_true rfl) (k114)
set_option maxRecDepth 20000 in
theorem lX6_step_113 (s0 : Int32) (m : qM) : tX6_step_113 (wX6_step_114 fX6_step_114) [none, none] [(.int s0), (.ref 3)] m = fX6_step_113 s0 m := rfl
theorem bX6_step_113 {C : qCx} {w : qWp} (h : qOk C w RX6 cX6_step 2 2 155 155) (hm : qMt C none) (hx : qNx C) : qSnd C w 2 155 (qQf C w 155 155 jV) qfin 155 234 (wX6_step_113 fX6_step_113) :=
  qSnd_of (fun lo st m x hr0 => by
    unfold wX6_step_113 at hr0
    split at hr0
    · exact ⟨_, (qsub_n (qsub_n qsub_nil)), (lX6_step_113 _ _).trans hr0⟩
    · cases hr0) (sX6_step_113 h hm hx (bX6_step_114 h hm hx))
noncomputable def tX6_step_69 (j87 : qT (Unit × qM)) (j69 : qT (Unit × qM)) : qT (Unit × qM) :=
  oLa 0 (oGf 3 0 1 (oLa 0 (oGi 3 3 (oCi GX8_byteAt 2 (oCi GX6_isDigit 1 (oEq (j87) (oLa 0 (oGi 3 3 (oC (.int (400 : Int32)) (oCGe (j87) (oLa 0 (oDup (oGi 3 3 (oC (.int (1 : Int32)) (o2 (· + ·) (oPi 3 3 (j69)))))))))))))))))
noncomputable def wX6_step_69 (k : qM → Option (Unit × qM)) : qT (Unit × qM) := fun lo st m => match lo, st with
  | [some (.ref 3), _], [] => k m
  | _, _ => none
noncomputable def wX6_step_87 (k : qM → Option (Unit × qM)) : qT (Unit × qM) := fun lo st m => match lo, st with
  | [some (.ref 3), _], [] => k m
  | _, _ => none
set_option maxRecDepth 20000 in
theorem sX6_step_69 {C : qCx} {w : qWp} (h : qOk C w RX6 cX6_step 2 2 155 155) (hm : qMt C none) (hx : qNx C) {j87 : qT (Unit × qM)} {j69 : qT (Unit × qM)} (k87 : qSnd C w 2 155 (qQf C w 155 155 jV) qfin 155 187 j87) (k69 : qSnd C w 2 155 (qQf C w 155 155 jV) qfin 155 147 j69) : qSnd C w 2 155 (qQf C w 155 155 jV) qfin 155 147 (tX6_step_69 j87 j69) :=
  cLa (pc := 147) h dX6_step_147 rfl (gGf (pc := 148) h dX6_step_148 ff_X6_27_3 (Nat.le_of_ble_eq_true rfl) (Nat.le_of_ble_eq_true rfl) rfl (cLa (pc := 151) h dX6_step_151 rfl (gGi (pc := 152) h dX6_step_152 ff_X6_18_3 (Nat.le_of_ble_eq_true rfl) (Nat.le_of_ble_eq_true rfl) (kCi (pc := 155) h (kd_X6_37 h dX6_step_155) spX8_byteAt (by decide) (by decide) (by decide) (by decide) (kCi (pc := 158) h (kd_X6_48 h dX6_step_158) spX6_isDigit (by decide) (by decide) (by decide) (by decide) (jEq (pc := 161) h dX6_step_161 rfl (k87) (cLa (pc := 164) h dX6_step_164 rfl (gGi (pc := 165) h dX6_step_165 ff_X6_18_3 (Nat.le_of_ble_eq_true rfl) (Nat.le_of_ble_eq_true rfl) (cS (pc := 168) h dX6_step_168 rfl (jCGe (pc := 171) h dX6_step_171 rfl (k87) (cLa (pc := 174) h dX6_step_174 rfl (aDup (pc := 175) h dX6_step_175 (gGi (pc := 176) h dX6_step_176 ff_X6_18_3 (Nat.le_of_ble_eq_true rfl) (Nat.le_of_ble_eq_true rfl) (cC (pc := 179) h dX6_step_179 rfl (aAdd (pc := 180) h dX6_step_180 (gPi (pc := 181) h dX6_step_181 ff_X6_18_3 (Or.inl rfl) (Nat.le_of_ble_eq_true rfl) (Nat.le_of_ble_eq_true rfl) (jGo (pc := 184) h dX6_step_184 rfl (k69))))))))))))))))))
set_option maxRecDepth 20000 in
theorem lX6_step_69 (k87 : qM → Option (Unit × qM)) (n : Nat) (m : qM) : tX6_step_69 (wX6_step_87 k87) (wX6_step_69 ((fX6_step_69 k87 n))) [some (.ref 3), none] [] m = fX6_step_69 k87 (n + 1) m := rfl
theorem bX6_step_69 {C : qCx} {w : qWp} (h : qOk C w RX6 cX6_step 2 2 155 155) (hm : qMt C none) (hx : qNx C) {k87 : qM → Option (Unit × qM)} (h87 : qSnd C w 2 155 (qQf C w 155 155 jV) qfin 155 187 (wX6_step_87 k87)) : ∀ n : Nat, qSnd C w 2 155 (qQf C w 155 155 jV) qfin 155 147 (wX6_step_69 (fX6_step_69 k87 n))
  | 0 => qSnd_of0 (fun lo st m x hr0 => by
    unfold wX6_step_69 at hr0
    split at hr0
    · cases hr0
    · cases hr0)
  | n + 1 => by
    have ih := bX6_step_69 h hm hx h87 n
    exact qSnd_of (fun lo st m x hr0 => by
    unfold wX6_step_69 at hr0
    split at hr0
    · exact ⟨_, (qsub_e (qsub_n qsub_nil)), (lX6_step_69 _ n _).trans hr0⟩
    · cases hr0) (sX6_step_69 h hm hx h87 ih)
noncomputable def tX6_step_98 (j114 : qT (Unit × qM)) : qT (Unit × qM) :=
  oPi 3 1 (j114)
noncomputable def wX6_step_98 (k : Int32 → qM → Option (Unit × qM)) : qT (Unit × qM) := fun lo st m => match lo, st with
  | [_, _], [.int s0, .ref 3] => k s0 m
  | _, _ => none
set_option maxRecDepth 20000 in
theorem sX6_step_98 {C : qCx} {w : qWp} (h : qOk C w RX6 cX6_step 2 2 155 155) (hm : qMt C none) (hx : qNx C) {j114 : qT (Unit × qM)} (k114 : qSnd C w 2 155 (qQf C w 155 155 jV) qfin 155 237 j114) : qSnd C w 2 155 (qQf C w 155 155 jV) qfin 155 206 (tX6_step_98 j114) :=
  gPi (pc := 206) h dX6_step_206 ff_X6_11_3 (Or.inl rfl) (Nat.le_of_ble_eq_true rfl) (Nat.le_of_ble_eq_true rfl) (jGo (pc := 209) h dX6_step_209 rfl (k114))
set_option maxRecDepth 20000 in
theorem lX6_step_98 (s0 : Int32) (m : qM) : tX6_step_98 (wX6_step_114 fX6_step_114) [none, none] [(.int s0), (.ref 3)] m = fX6_step_98 s0 m := rfl
theorem bX6_step_98 {C : qCx} {w : qWp} (h : qOk C w RX6 cX6_step 2 2 155 155) (hm : qMt C none) (hx : qNx C) : qSnd C w 2 155 (qQf C w 155 155 jV) qfin 155 206 (wX6_step_98 fX6_step_98) :=
  qSnd_of (fun lo st m x hr0 => by
    unfold wX6_step_98 at hr0
    split at hr0
    · exact ⟨_, (qsub_n (qsub_n qsub_nil)), (lX6_step_98 _ _).trans hr0⟩
    · cases hr0) (sX6_step_98 h hm hx (bX6_step_114 h hm hx))
noncomputable def tX6_step_87 (j98 : qT (Unit × qM)) : qT (Unit × qM) :=
  oLa 0 (oLa 0 (oGi 3 3 (oLa 0 (oGi 3 2 (o2 (· - ·) (oC (.int (3 : Int32)) (oCLe (oC (.int (2 : Int32)) (j98)) (oC (.int (4 : Int32)) (j98)))))))))
set_option maxRecDepth 20000 in
theorem sX6_step_87 {C : qCx} {w : qWp} (h : qOk C w RX6 cX6_step 2 2 155 155) (hm : qMt C none) (hx : qNx C) {j98 : qT (Unit × qM)} (k98 : qSnd C w 2 155 (qQf C w 155 155 jV) qfin 155 206 j98) : qSnd C w 2 155 (qQf C w 155 155 jV) qfin 155 187 (tX6_step_87 j98) :=
  cLa (pc := 187) h dX6_step_187 rfl (cLa (pc := 188) h dX6_step_188 rfl (gGi (pc := 189) h dX6_step_189 ff_X6_18_3 (Nat.le_of_ble_eq_true rfl) (Nat.le_of_ble_eq_true rfl) (cLa (pc := 192) h dX6_step_192 rfl (gGi (pc := 193) h dX6_step_193 ff_X6_15_3 (Nat.le_of_ble_eq_true rfl) (Nat.le_of_ble_eq_true rfl) (aSub (pc := 196) h dX6_step_196 (cC (pc := 197) h dX6_step_197 rfl (jCLe (pc := 198) h dX6_step_198 rfl (cC (pc := 205) h dX6_step_205 rfl (k98)) (cC (pc := 201) h dX6_step_201 rfl (jGo (pc := 202) h dX6_step_202 rfl (k98))))))))))
set_option maxRecDepth 20000 in
theorem lX6_step_87 (m : qM) : tX6_step_87 (wX6_step_98 fX6_step_98) [some (.ref 3), none] [] m = fX6_step_87 m := rfl
theorem bX6_step_87 {C : qCx} {w : qWp} (h : qOk C w RX6 cX6_step 2 2 155 155) (hm : qMt C none) (hx : qNx C) : qSnd C w 2 155 (qQf C w 155 155 jV) qfin 155 187 (wX6_step_87 fX6_step_87) :=
  qSnd_of (fun lo st m x hr0 => by
    unfold wX6_step_87 at hr0
    split at hr0
    · exact ⟨_, (qsub_e (qsub_n qsub_nil)), (lX6_step_87 _).trans hr0⟩
    · cases hr0) (sX6_step_87 h hm hx (bX6_step_98 h hm hx))
noncomputable def tX6_step_44 (j62 : qT (Unit × qM)) (j44 : qT (Unit × qM)) : qT (Unit × qM) :=
  oLa 0 (oGf 3 0 1 (oLa 0 (oGi 3 3 (oCi GX8_byteAt 2 (oCi GX6_isSmall 1 (oEq (j62) (oLa 0 (oGi 3 3 (oC (.int (400 : Int32)) (oCGe (j62) (oLa 0 (oDup (oGi 3 3 (oC (.int (1 : Int32)) (o2 (· + ·) (oPi 3 3 (j44)))))))))))))))))
noncomputable def wX6_step_44 (k : qM → Option (Unit × qM)) : qT (Unit × qM) := fun lo st m => match lo, st with
  | [some (.ref 3), _], [] => k m
  | _, _ => none
noncomputable def wX6_step_62 (k : qM → Option (Unit × qM)) : qT (Unit × qM) := fun lo st m => match lo, st with
  | [some (.ref 3), _], [] => k m
  | _, _ => none
set_option maxRecDepth 20000 in
theorem sX6_step_44 {C : qCx} {w : qWp} (h : qOk C w RX6 cX6_step 2 2 155 155) (hm : qMt C none) (hx : qNx C) {j62 : qT (Unit × qM)} {j44 : qT (Unit × qM)} (k62 : qSnd C w 2 155 (qQf C w 155 155 jV) qfin 155 132 j62) (k44 : qSnd C w 2 155 (qQf C w 155 155 jV) qfin 155 92 j44) : qSnd C w 2 155 (qQf C w 155 155 jV) qfin 155 92 (tX6_step_44 j62 j44) :=
  cLa (pc := 92) h dX6_step_92 rfl (gGf (pc := 93) h dX6_step_93 ff_X6_27_3 (Nat.le_of_ble_eq_true rfl) (Nat.le_of_ble_eq_true rfl) rfl (cLa (pc := 96) h dX6_step_96 rfl (gGi (pc := 97) h dX6_step_97 ff_X6_18_3 (Nat.le_of_ble_eq_true rfl) (Nat.le_of_ble_eq_true rfl) (kCi (pc := 100) h (kd_X6_37 h dX6_step_100) spX8_byteAt (by decide) (by decide) (by decide) (by decide) (kCi (pc := 103) h (kd_X6_45 h dX6_step_103) spX6_isSmall (by decide) (by decide) (by decide) (by decide) (jEq (pc := 106) h dX6_step_106 rfl (k62) (cLa (pc := 109) h dX6_step_109 rfl (gGi (pc := 110) h dX6_step_110 ff_X6_18_3 (Nat.le_of_ble_eq_true rfl) (Nat.le_of_ble_eq_true rfl) (cS (pc := 113) h dX6_step_113 rfl (jCGe (pc := 116) h dX6_step_116 rfl (k62) (cLa (pc := 119) h dX6_step_119 rfl (aDup (pc := 120) h dX6_step_120 (gGi (pc := 121) h dX6_step_121 ff_X6_18_3 (Nat.le_of_ble_eq_true rfl) (Nat.le_of_ble_eq_true rfl) (cC (pc := 124) h dX6_step_124 rfl (aAdd (pc := 125) h dX6_step_125 (gPi (pc := 126) h dX6_step_126 ff_X6_18_3 (Or.inl rfl) (Nat.le_of_ble_eq_true rfl) (Nat.le_of_ble_eq_true rfl) (jGo (pc := 129) h dX6_step_129 rfl (k44))))))))))))))))))
set_option maxRecDepth 20000 in
theorem lX6_step_44 (k62 : qM → Option (Unit × qM)) (n : Nat) (m : qM) : tX6_step_44 (wX6_step_62 k62) (wX6_step_44 ((fX6_step_44 k62 n))) [some (.ref 3), none] [] m = fX6_step_44 k62 (n + 1) m := rfl
theorem bX6_step_44 {C : qCx} {w : qWp} (h : qOk C w RX6 cX6_step 2 2 155 155) (hm : qMt C none) (hx : qNx C) {k62 : qM → Option (Unit × qM)} (h62 : qSnd C w 2 155 (qQf C w 155 155 jV) qfin 155 132 (wX6_step_62 k62)) : ∀ n : Nat, qSnd C w 2 155 (qQf C w 155 155 jV) qfin 155 92 (wX6_step_44 (fX6_step_44 k62 n))
  | 0 => qSnd_of0 (fun lo st m x hr0 => by
    unfold wX6_step_44 at hr0
    split at hr0
    · cases hr0
    · cases hr0)
  | n + 1 => by
    have ih := bX6_step_44 h hm hx h62 n
    exact qSnd_of (fun lo st m x hr0 => by
    unfold wX6_step_44 at hr0
    split at hr0
    · exact ⟨_, (qsub_e (qsub_n qsub_nil)), (lX6_step_44 _ n _).trans hr0⟩
    · cases hr0) (sX6_step_44 h hm hx h62 ih)
noncomputable def tX6_step_62 (j114 : qT (Unit × qM)) : qT (Unit × qM) :=
  oLa 0 (oC (.int (1 : Int32)) (oPi 3 1 (j114)))
set_option maxRecDepth 20000 in
theorem sX6_step_62 {C : qCx} {w : qWp} (h : qOk C w RX6 cX6_step 2 2 155 155) (hm : qMt C none) (hx : qNx C) {j114 : qT (Unit × qM)} (k114 : qSnd C w 2 155 (qQf C w 155 155 jV) qfin 155 237 j114) : qSnd C w 2 155 (qQf C w 155 155 jV) qfin 155 132 (tX6_step_62 j114) :=
  cLa (pc := 132) h dX6_step_132 rfl (cC (pc := 133) h dX6_step_133 rfl (gPi (pc := 134) h dX6_step_134 ff_X6_11_3 (Or.inl rfl) (Nat.le_of_ble_eq_true rfl) (Nat.le_of_ble_eq_true rfl) (jGo (pc := 137) h dX6_step_137 rfl (k114))))
set_option maxRecDepth 20000 in
theorem lX6_step_62 (m : qM) : tX6_step_62 (wX6_step_114 fX6_step_114) [some (.ref 3), none] [] m = fX6_step_62 m := rfl
theorem bX6_step_62 {C : qCx} {w : qWp} (h : qOk C w RX6 cX6_step 2 2 155 155) (hm : qMt C none) (hx : qNx C) : qSnd C w 2 155 (qQf C w 155 155 jV) qfin 155 132 (wX6_step_62 fX6_step_62) :=
  qSnd_of (fun lo st m x hr0 => by
    unfold wX6_step_62 at hr0
    split at hr0
    · exact ⟨_, (qsub_e (qsub_n qsub_nil)), (lX6_step_62 _).trans hr0⟩
    · cases hr0) (sX6_step_62 h hm hx (bX6_step_114 h hm hx))
noncomputable def tX6_step_24 (j113 : qT (Unit × qM)) (j69 : qT (Unit × qM)) (j44 : qT (Unit × qM)) (j114 : qT (Unit × qM)) : qT (Unit × qM) :=
  oLa 0 (oLa 0 (oGi 3 2 (oPi 3 3 (oLa 0 (oGf 3 0 1 (oLa 0 (oGi 3 2 (oCi GX8_byteAt 2 (oSi 1 (oLi 1 (oC (.int (-1 : Int32)) (oCEq (oLa 0 (oC (.int (0 : Int32)) (oPi 3 1 (j114)))) (oLi 1 (oCi GX6_isSmall 1 (oEq (oLi 1 (oCi GX6_isDigit 1 (oEq (oLa 0 (oLa 0 (oGi 3 2 (oC (.int (1 : Int32)) (o2 (· + ·) (oPi 3 3 (oLa 0 (oLi 1 (oC (.int (59 : Int32)) (oCEq (oC (.int (3 : Int32)) (j113)) (oC (.int (4 : Int32)) (j113)))))))))))) (j69)))) (j44))))))))))))))))
set_option maxRecDepth 20000 in
theorem sX6_step_24 {C : qCx} {w : qWp} (h : qOk C w RX6 cX6_step 2 2 155 155) (hm : qMt C none) (hx : qNx C) {j113 : qT (Unit × qM)} {j69 : qT (Unit × qM)} {j44 : qT (Unit × qM)} {j114 : qT (Unit × qM)} (k113 : qSnd C w 2 155 (qQf C w 155 155 jV) qfin 155 234 j113) (k69 : qSnd C w 2 155 (qQf C w 155 155 jV) qfin 155 147 j69) (k44 : qSnd C w 2 155 (qQf C w 155 155 jV) qfin 155 92 j44) (k114 : qSnd C w 2 155 (qQf C w 155 155 jV) qfin 155 237 j114) : qSnd C w 2 155 (qQf C w 155 155 jV) qfin 155 52 (tX6_step_24 j113 j69 j44 j114) :=
  cLa (pc := 52) h dX6_step_52 rfl (cLa (pc := 53) h dX6_step_53 rfl (gGi (pc := 54) h dX6_step_54 ff_X6_15_3 (Nat.le_of_ble_eq_true rfl) (Nat.le_of_ble_eq_true rfl) (gPi (pc := 57) h dX6_step_57 ff_X6_18_3 (Or.inl rfl) (Nat.le_of_ble_eq_true rfl) (Nat.le_of_ble_eq_true rfl) (cLa (pc := 60) h dX6_step_60 rfl (gGf (pc := 61) h dX6_step_61 ff_X6_27_3 (Nat.le_of_ble_eq_true rfl) (Nat.le_of_ble_eq_true rfl) rfl (cLa (pc := 64) h dX6_step_64 rfl (gGi (pc := 65) h dX6_step_65 ff_X6_15_3 (Nat.le_of_ble_eq_true rfl) (Nat.le_of_ble_eq_true rfl) (kCi (pc := 68) h (kd_X6_37 h dX6_step_68) spX8_byteAt (by decide) (by decide) (by decide) (by decide) (cSi (pc := 71) h dX6_step_71 rfl (cLi (pc := 72) h dX6_step_72 rfl (cC (pc := 73) h dX6_step_73 rfl (jCNe (pc := 74) h dX6_step_74 rfl (cLi (pc := 85) h dX6_step_85 rfl (kCi (pc := 86) h (kd_X6_45 h dX6_step_86) spX6_isSmall (by decide) (by decide) (by decide) (by decide) (jEq (pc := 89) h dX6_step_89 rfl (cLi (pc := 140) h dX6_step_140 rfl (kCi (pc := 141) h (kd_X6_48 h dX6_step_141) spX6_isDigit (by decide) (by decide) (by decide) (by decide) (jEq (pc := 144) h dX6_step_144 rfl (cLa (pc := 212) h dX6_step_212 rfl (cLa (pc := 213) h dX6_step_213 rfl (gGi (pc := 214) h dX6_step_214 ff_X6_15_3 (Nat.le_of_ble_eq_true rfl) (Nat.le_of_ble_eq_true rfl) (cC (pc := 217) h dX6_step_217 rfl (aAdd (pc := 218) h dX6_step_218 (gPi (pc := 219) h dX6_step_219 ff_X6_18_3 (Or.inl rfl) (Nat.le_of_ble_eq_true rfl) (Nat.le_of_ble_eq_true rfl) (cLa (pc := 222) h dX6_step_222 rfl (cLi (pc := 223) h dX6_step_223 rfl (cB (pc := 224) h dX6_step_224 rfl (jCNe (pc := 226) h dX6_step_226 rfl (cC (pc := 233) h dX6_step_233 rfl (k113)) (cC (pc := 229) h dX6_step_229 rfl (jGo (pc := 230) h dX6_step_230 rfl (k113))))))))))))) (k69)))) (k44)))) (cLa (pc := 77) h dX6_step_77 rfl (cC (pc := 78) h dX6_step_78 rfl (gPi (pc := 79) h dX6_step_79 ff_X6_11_3 (Or.inl rfl) (Nat.le_of_ble_eq_true rfl) (Nat.le_of_ble_eq_true rfl) (jGo (pc := 82) h dX6_step_82 rfl (k114)))))))))))))))))
set_option maxRecDepth 20000 in
theorem lX6_step_24 (m : qM) : tX6_step_24 (wX6_step_113 fX6_step_113) (wX6_step_69 (fX6_step_69 fX6_step_87 FU)) (wX6_step_44 (fX6_step_44 fX6_step_62 FU)) (wX6_step_114 fX6_step_114) [some (.ref 3), none] [] m = fX6_step_24 m := rfl
theorem bX6_step_24 {C : qCx} {w : qWp} (h : qOk C w RX6 cX6_step 2 2 155 155) (hm : qMt C none) (hx : qNx C) : qSnd C w 2 155 (qQf C w 155 155 jV) qfin 155 52 (wX6_step_24 fX6_step_24) :=
  qSnd_of (fun lo st m x hr0 => by
    unfold wX6_step_24 at hr0
    split at hr0
    · exact ⟨_, (qsub_e (qsub_n qsub_nil)), (lX6_step_24 _).trans hr0⟩
    · cases hr0) (sX6_step_24 h hm hx (bX6_step_113 h hm hx) (bX6_step_69 h hm hx (bX6_step_87 h hm hx) FU) (bX6_step_44 h hm hx (bX6_step_62 h hm hx) FU) (bX6_step_114 h hm hx))
noncomputable def tX6_step_0 (j4 : qT (Unit × qM)) : qT (Unit × qM) :=
  oLa 0 (oLa 0 (oGi 3 3 (oPi 3 2 (j4))))
set_option maxRecDepth 20000 in
theorem sX6_step_0 {C : qCx} {w : qWp} (h : qOk C w RX6 cX6_step 2 2 155 155) (hm : qMt C none) (hx : qNx C) {j4 : qT (Unit × qM)} (k4 : qSnd C w 2 155 (qQf C w 155 155 jV) qfin 155 8 j4) : qSnd C w 2 155 (qQf C w 155 155 jV) qfin 155 0 (tX6_step_0 j4) :=
  cLa (pc := 0) h dX6_step_0 rfl (cLa (pc := 1) h dX6_step_1 rfl (gGi (pc := 2) h dX6_step_2 ff_X6_18_3 (Nat.le_of_ble_eq_true rfl) (Nat.le_of_ble_eq_true rfl) (gPi (pc := 5) h dX6_step_5 ff_X6_15_3 (Or.inl rfl) (Nat.le_of_ble_eq_true rfl) (Nat.le_of_ble_eq_true rfl) (k4))))
set_option maxRecDepth 20000 in
theorem lX6_step_0 (m : qM) : tX6_step_0 (wX6_step_4 (fX6_step_4 fX6_step_24 FU)) [some (.ref 3), none] [] m = fX6_step_0 m := rfl
noncomputable def GX6_step : qG Unit := fun av m => match av with
  | [.ref 3] => fX6_step m
  | _ => none
theorem spX6_step : qSpV yX6_step (.code yX6_step cX6_step 2 none) 2 qfin 155 155 1 GX6_step := by
  intro av m m' hG
  unfold GX6_step at hG
  split at hG
  · rw [fX6_step_d] at hG
    exact ⟨qmeet (J := jV) (r := ((), m')) (av := [.ref 3]) (by decide +kernel) (Nat.le_of_ble_eq_true rfl) (fun C w h hm hx hn => sX6_step_0 h hm hx (bX6_step_4 h hm hx (bX6_step_24 h hm hx) FU)) ((lX6_step_0 _).trans hG) (Nat.le_of_ble_eq_true rfl), Or.inl ⟨3, _, 6, _, _, rfl, by decide, rfl, qCk_6, rfl⟩⟩
  · cases hG
theorem dX6_isAtEnd_0 : decode cX6_isAtEnd 0 = .ok (.aload_n 0, 1) := by decide +kernel
theorem dX6_isAtEnd_1 : decode cX6_isAtEnd 1 = .ok (.getfield 11, 3) := by decide +kernel
theorem dX6_isAtEnd_4 : decode cX6_isAtEnd 4 = .ok (.ifCond .ne 7, 3) := by decide +kernel
theorem dX6_isAtEnd_7 : decode cX6_isAtEnd 7 = .ok (.iconst 1, 1) := by decide +kernel
theorem dX6_isAtEnd_8 : decode cX6_isAtEnd 8 = .ok (.goto 4, 3) := by decide +kernel
theorem dX6_isAtEnd_11 : decode cX6_isAtEnd 11 = .ok (.iconst 0, 1) := by decide +kernel
theorem dX6_isAtEnd_12 : decode cX6_isAtEnd 12 = .ok (.ireturn, 1) := by decide +kernel
noncomputable def tX6_isAtEnd_6 : qT (Int32 × qM) :=
  eZ
noncomputable def wX6_isAtEnd_6 (k : Int32 → qM → Option (Int32 × qM)) : qT (Int32 × qM) := fun lo st m => match lo, st with
  | [_], [.int s0] => k s0 m
  | _, _ => none
set_option maxRecDepth 20000 in
theorem sX6_isAtEnd_6 {C : qCx} {w : qWp} (h : qOk C w RX6 cX6_isAtEnd 1 0 155 155) (hm : qMt C (some .boolean)) (hx : qNx C) : qSnd C w 1 155 (qQf C w 155 155 jI) qfin 155 12 (tX6_isAtEnd_6) :=
  zZ (pc := 12) h hm (Nat.le_refl _) dX6_isAtEnd_12
set_option maxRecDepth 20000 in
theorem lX6_isAtEnd_6 (s0 : Int32) (m : qM) : tX6_isAtEnd_6 [none] [(.int s0)] m = fX6_isAtEnd_6 s0 m := rfl
theorem bX6_isAtEnd_6 {C : qCx} {w : qWp} (h : qOk C w RX6 cX6_isAtEnd 1 0 155 155) (hm : qMt C (some .boolean)) (hx : qNx C) : qSnd C w 1 155 (qQf C w 155 155 jI) qfin 155 12 (wX6_isAtEnd_6 fX6_isAtEnd_6) :=
  qSnd_of (fun lo st m x hr0 => by
    unfold wX6_isAtEnd_6 at hr0
    split at hr0
    · exact ⟨_, (qsub_n qsub_nil), (lX6_isAtEnd_6 _ _).trans hr0⟩
    · cases hr0) (sX6_isAtEnd_6 h hm hx)
noncomputable def tX6_isAtEnd_0 (j6 : qT (Int32 × qM)) : qT (Int32 × qM) :=
  oLa 0 (oGi 3 1 (oEq (oC (.int (1 : Int32)) (j6)) (oC (.int (0 : Int32)) (j6))))
set_option maxRecDepth 20000 in
theorem sX6_isAtEnd_0 {C : qCx} {w : qWp} (h : qOk C w RX6 cX6_isAtEnd 1 0 155 155) (hm : qMt C (some .boolean)) (hx : qNx C) {j6 : qT (Int32 × qM)} (k6 : qSnd C w 1 155 (qQf C w 155 155 jI) qfin 155 12 j6) : qSnd C w 1 155 (qQf C w 155 155 jI) qfin 155 0 (tX6_isAtEnd_0 j6) :=
  cLa (pc := 0) h dX6_isAtEnd_0 rfl (gGi (pc := 1) h dX6_isAtEnd_1 ff_X6_11_3 (Nat.le_of_ble_eq_true rfl) (Nat.le_of_ble_eq_true rfl) (jNe (pc := 4) h dX6_isAtEnd_4 rfl (cC (pc := 11) h dX6_isAtEnd_11 rfl (k6)) (cC (pc := 7) h dX6_isAtEnd_7 rfl (jGo (pc := 8) h dX6_isAtEnd_8 rfl (k6)))))
set_option maxRecDepth 20000 in
theorem lX6_isAtEnd_0 (m : qM) : tX6_isAtEnd_0 (wX6_isAtEnd_6 fX6_isAtEnd_6) [some (.ref 3)] [] m = fX6_isAtEnd_0 m := rfl
noncomputable def GX6_isAtEnd : qG Int32 := fun av m => match av with
  | [.ref 3] => fX6_isAtEnd m
  | _ => none
theorem spX6_isAtEnd : qSpI yX6_isAtEnd (.code yX6_isAtEnd cX6_isAtEnd 1 (some .boolean)) 0 qfin 155 155 1 GX6_isAtEnd := by
  intro av m x m' hG
  unfold GX6_isAtEnd at hG
  split at hG
  · rw [fX6_isAtEnd_d] at hG
    exact ⟨qmeet (J := jI) (r := (x, m')) (av := [.ref 3]) (by decide +kernel) (Nat.le_of_ble_eq_true rfl) (fun C w h hm hx hn => sX6_isAtEnd_0 h hm hx (bX6_isAtEnd_6 h hm hx)) ((lX6_isAtEnd_0 _).trans hG) (Nat.le_of_ble_eq_true rfl), Or.inl ⟨3, _, 6, _, _, rfl, by decide, rfl, qCk_6, rfl⟩⟩
  · cases hG
theorem im_J0_charAt_5068e : Jvm.Cond.instanceMethod yJ0_charAt_5068e ∈ qTw := qm3 (List.mem_of_getElem? (i := 49) (by decide +kernel)) (by decide +kernel)
theorem se_J0_charAt_5068e : Jvm.Cond.selects yJ0_charAt_5068e.cls yJ0_charAt_5068e yJ0_charAt_5068e ∈ qTw := qm3 (List.mem_of_getElem? (i := 50) (by decide +kernel)) (by decide +kernel)
theorem co_J0_charAt_5068e : Jvm.Cond.code yJ0_charAt_5068e cJ0_charAt_5068e 2 (some .char) ∈ qTw := qm3 (List.mem_of_getElem? (i := 51) (by decide +kernel)) (by decide +kernel)
theorem yk_J0_charAt_5068e : qYk yJ0_charAt_5068e 1 := ⟨⟨by decide +kernel, by decide +kernel⟩, by decide +kernel⟩
theorem ml_X6_56 : Jvm.Cond.methodLink RX6 56 yJ0_charAt_5068e ∈ qTw := qm3 (List.mem_of_getElem? (i := 48) (by decide +kernel)) (by decide +kernel)
theorem kd_X6_56 {C : qCx} {w : qWp} {cc : ByteArray} {nL dp n0 n1 pc : Nat} (h : qOk C w RX6 cc nL dp n0 n1) (d : decode cc pc = .ok (.invokevirtual 56, 3)) : qCallOk C w nL dp n0 n1 pc 2 1 yJ0_charAt_5068e (.code yJ0_charAt_5068e cJ0_charAt_5068e 2 (some .char)) := kindV h d ml_X6_56 im_J0_charAt_5068e se_J0_charAt_5068e in_java_lang_String co_J0_charAt_5068e yk_J0_charAt_5068e (by decide)
theorem dX6_isText_0 : decode cX6_isText 0 = .ok (.iload_n 3, 1) := by decide +kernel
theorem dX6_isText_1 : decode cX6_isText 1 = .ok (.iload_n 2, 1) := by decide +kernel
theorem dX6_isText_2 : decode cX6_isText 2 = .ok (.isub, 1) := by decide +kernel
theorem dX6_isText_3 : decode cX6_isText 3 = .ok (.aload_n 0, 1) := by decide +kernel
theorem dX6_isText_4 : decode cX6_isText 4 = .ok (.getfield 18, 3) := by decide +kernel
theorem dX6_isText_7 : decode cX6_isText 7 = .ok (.aload_n 0, 1) := by decide +kernel
theorem dX6_isText_8 : decode cX6_isText 8 = .ok (.getfield 15, 3) := by decide +kernel
theorem dX6_isText_11 : decode cX6_isText 11 = .ok (.isub, 1) := by decide +kernel
theorem dX6_isText_12 : decode cX6_isText 12 = .ok (.if_icmp .eq 5, 3) := by decide +kernel
theorem dX6_isText_15 : decode cX6_isText 15 = .ok (.iconst 0, 1) := by decide +kernel
theorem dX6_isText_16 : decode cX6_isText 16 = .ok (.ireturn, 1) := by decide +kernel
theorem dX6_isText_17 : decode cX6_isText 17 = .ok (.iconst 0, 1) := by decide +kernel
theorem dX6_isText_18 : decode cX6_isText 18 = .ok (.istore 4, 2) := by decide +kernel
theorem dX6_isText_20 : decode cX6_isText 20 = .ok (.iload_n 2, 1) := by decide +kernel
theorem dX6_isText_21 : decode cX6_isText 21 = .ok (.iload 4, 2) := by decide +kernel
theorem dX6_isText_23 : decode cX6_isText 23 = .ok (.iadd, 1) := by decide +kernel
theorem dX6_isText_24 : decode cX6_isText 24 = .ok (.iload_n 3, 1) := by decide +kernel
theorem dX6_isText_25 : decode cX6_isText 25 = .ok (.if_icmp .ge 36, 3) := by decide +kernel
theorem dX6_isText_28 : decode cX6_isText 28 = .ok (.aload_n 1, 1) := by decide +kernel
theorem dX6_isText_29 : decode cX6_isText 29 = .ok (.iload_n 2, 1) := by decide +kernel
theorem dX6_isText_30 : decode cX6_isText 30 = .ok (.iload 4, 2) := by decide +kernel
theorem dX6_isText_32 : decode cX6_isText 32 = .ok (.iadd, 1) := by decide +kernel
theorem dX6_isText_33 : decode cX6_isText 33 = .ok (.invokevirtual 56, 3) := by decide +kernel
theorem dX6_isText_36 : decode cX6_isText 36 = .ok (.aload_n 0, 1) := by decide +kernel
theorem dX6_isText_37 : decode cX6_isText 37 = .ok (.getfield 27, 3) := by decide +kernel
theorem dX6_isText_40 : decode cX6_isText 40 = .ok (.aload_n 0, 1) := by decide +kernel
theorem dX6_isText_41 : decode cX6_isText 41 = .ok (.getfield 15, 3) := by decide +kernel
theorem dX6_isText_44 : decode cX6_isText 44 = .ok (.iload 4, 2) := by decide +kernel
theorem dX6_isText_46 : decode cX6_isText 46 = .ok (.iadd, 1) := by decide +kernel
theorem dX6_isText_47 : decode cX6_isText 47 = .ok (.invokevirtual 37, 3) := by decide +kernel
theorem dX6_isText_50 : decode cX6_isText 50 = .ok (.if_icmp .eq 5, 3) := by decide +kernel
theorem dX6_isText_53 : decode cX6_isText 53 = .ok (.iconst 0, 1) := by decide +kernel
theorem dX6_isText_54 : decode cX6_isText 54 = .ok (.ireturn, 1) := by decide +kernel
theorem dX6_isText_55 : decode cX6_isText 55 = .ok (.iinc 4 1, 3) := by decide +kernel
theorem dX6_isText_58 : decode cX6_isText 58 = .ok (.goto (-38), 3) := by decide +kernel
theorem dX6_isText_61 : decode cX6_isText 61 = .ok (.iconst 1, 1) := by decide +kernel
theorem dX6_isText_62 : decode cX6_isText 62 = .ok (.ireturn, 1) := by decide +kernel
noncomputable def tX6_isText_13 (j13 : qT (Int32 × qM)) : qT (Int32 × qM) :=
  oLi 2 (oLi 4 (o2 (· + ·) (oLi 3 (oCGe (oC (.int (1 : Int32)) (eZ)) (oLa 1 (oLi 2 (oLi 4 (o2 (· + ·) (oCi GJ0_charAt_5068e 2 (oLa 0 (oGf 3 0 1 (oLa 0 (oGi 3 2 (oLi 4 (o2 (· + ·) (oCi GX8_byteAt 2 (oCEq (oInc 4 (1 : Int32) (j13)) (oC (.int (0 : Int32)) (eZ)))))))))))))))))))
noncomputable def wX6_isText_13 (k : Nat → Int32 → Int32 → Int32 → qM → Option (Int32 × qM)) : qT (Int32 × qM) := fun lo st m => match lo, st with
  | [some (.ref 3), some (.ref a1), some (.int a2), some (.int a3), some (.int a4)], [] => k a1 a2 a3 a4 m
  | _, _ => none
set_option maxRecDepth 20000 in
theorem sX6_isText_13 {C : qCx} {w : qWp} (h : qOk C w RX6 cX6_isText 5 4 155 155) (hm : qMt C (some .boolean)) (hx : qNx C) {j13 : qT (Int32 × qM)} (k13 : qSnd C w 5 155 (qQf C w 155 155 jI) qfin 155 20 j13) : qSnd C w 5 155 (qQf C w 155 155 jI) qfin 155 20 (tX6_isText_13 j13) :=
  cLi (pc := 20) h dX6_isText_20 rfl (cLI (pc := 21) h dX6_isText_21 (aAdd (pc := 23) h dX6_isText_23 (cLi (pc := 24) h dX6_isText_24 rfl (jCGe (pc := 25) h dX6_isText_25 rfl (cC (pc := 61) h dX6_isText_61 rfl (zZ (pc := 62) h hm (Nat.le_refl _) dX6_isText_62)) (cLa (pc := 28) h dX6_isText_28 rfl (cLi (pc := 29) h dX6_isText_29 rfl (cLI (pc := 30) h dX6_isText_30 (aAdd (pc := 32) h dX6_isText_32 (kCi (pc := 33) h (kd_X6_56 h dX6_isText_33) spJ0_charAt_5068e (by decide) (by decide) (by decide) (by decide) (cLa (pc := 36) h dX6_isText_36 rfl (gGf (pc := 37) h dX6_isText_37 ff_X6_27_3 (Nat.le_of_ble_eq_true rfl) (Nat.le_of_ble_eq_true rfl) rfl (cLa (pc := 40) h dX6_isText_40 rfl (gGi (pc := 41) h dX6_isText_41 ff_X6_15_3 (Nat.le_of_ble_eq_true rfl) (Nat.le_of_ble_eq_true rfl) (cLI (pc := 44) h dX6_isText_44 (aAdd (pc := 46) h dX6_isText_46 (kCi (pc := 47) h (kd_X6_37 h dX6_isText_47) spX8_byteAt (by decide) (by decide) (by decide) (by decide) (jCEq (pc := 50) h dX6_isText_50 rfl (cInc (pc := 55) h dX6_isText_55 rfl (jGo (pc := 58) h dX6_isText_58 rfl (k13))) (cC (pc := 53) h dX6_isText_53 rfl (zZ (pc := 54) h hm (Nat.le_refl _) dX6_isText_54)))))))))))))))))))
set_option maxRecDepth 20000 in
theorem lX6_isText_13 (n : Nat) (a1 : Nat) (a2 : Int32) (a3 : Int32) (a4 : Int32) (m : qM) : tX6_isText_13 (wX6_isText_13 ((fX6_isText_13 n))) [some (.ref 3), some (.ref a1), some (.int a2), some (.int a3), some (.int a4)] [] m = fX6_isText_13 (n + 1) a1 a2 a3 a4 m := rfl
theorem bX6_isText_13 {C : qCx} {w : qWp} (h : qOk C w RX6 cX6_isText 5 4 155 155) (hm : qMt C (some .boolean)) (hx : qNx C) : ∀ n : Nat, qSnd C w 5 155 (qQf C w 155 155 jI) qfin 155 20 (wX6_isText_13 (fX6_isText_13 n))
  | 0 => qSnd_of0 (fun lo st m x hr0 => by
    unfold wX6_isText_13 at hr0
    split at hr0
    · cases hr0
    · cases hr0)
  | n + 1 => by
    have ih := bX6_isText_13 h hm hx n
    exact qSnd_of (fun lo st m x hr0 => by
    unfold wX6_isText_13 at hr0
    split at hr0
    · exact ⟨_, (qsub_e (qsub_e (qsub_e (qsub_e (qsub_e qsub_nil))))), (lX6_isText_13 n _ _ _ _ _).trans hr0⟩
    · cases hr0) (sX6_isText_13 h hm hx ih)
noncomputable def tX6_isText_0 (j13 : qT (Int32 × qM)) : qT (Int32 × qM) :=
  oLi 3 (oLi 2 (o2 (· - ·) (oLa 0 (oGi 3 3 (oLa 0 (oGi 3 2 (o2 (· - ·) (oCEq (oC (.int (0 : Int32)) (oSi 4 (j13))) (oC (.int (0 : Int32)) (eZ))))))))))
set_option maxRecDepth 20000 in
theorem sX6_isText_0 {C : qCx} {w : qWp} (h : qOk C w RX6 cX6_isText 5 4 155 155) (hm : qMt C (some .boolean)) (hx : qNx C) {j13 : qT (Int32 × qM)} (k13 : qSnd C w 5 155 (qQf C w 155 155 jI) qfin 155 20 j13) : qSnd C w 5 155 (qQf C w 155 155 jI) qfin 155 0 (tX6_isText_0 j13) :=
  cLi (pc := 0) h dX6_isText_0 rfl (cLi (pc := 1) h dX6_isText_1 rfl (aSub (pc := 2) h dX6_isText_2 (cLa (pc := 3) h dX6_isText_3 rfl (gGi (pc := 4) h dX6_isText_4 ff_X6_18_3 (Nat.le_of_ble_eq_true rfl) (Nat.le_of_ble_eq_true rfl) (cLa (pc := 7) h dX6_isText_7 rfl (gGi (pc := 8) h dX6_isText_8 ff_X6_15_3 (Nat.le_of_ble_eq_true rfl) (Nat.le_of_ble_eq_true rfl) (aSub (pc := 11) h dX6_isText_11 (jCEq (pc := 12) h dX6_isText_12 rfl (cC (pc := 17) h dX6_isText_17 rfl (cSI (pc := 18) h dX6_isText_18 (k13))) (cC (pc := 15) h dX6_isText_15 rfl (zZ (pc := 16) h hm (Nat.le_refl _) dX6_isText_16))))))))))
set_option maxRecDepth 20000 in
theorem lX6_isText_0 (a1 : Nat) (a2 : Int32) (a3 : Int32) (m : qM) : tX6_isText_0 (wX6_isText_13 (fX6_isText_13 FU)) [some (.ref 3), some (.ref a1), some (.int a2), some (.int a3), none] [] m = fX6_isText_0 a1 a2 a3 m := rfl
noncomputable def GX6_isText : qG Int32 := fun av m => match av with
  | [.ref 3, .ref a1, .int a2, .int a3] => fX6_isText a1 a2 a3 m
  | _ => none
theorem spX6_isText : qSpI yX6_isText (.code yX6_isText cX6_isText 5 (some .boolean)) 4 qfin 155 155 1 GX6_isText := by
  intro av m x m' hG
  unfold GX6_isText at hG
  split at hG
  · rename_i a1 a2 a3
    rw [fX6_isText_d] at hG
    exact ⟨qmeet (J := jI) (r := (x, m')) (av := [.ref 3, .ref a1, .int a2, .int a3]) (by decide +kernel) (Nat.le_of_ble_eq_true rfl) (fun C w h hm hx hn => sX6_isText_0 h hm hx (bX6_isText_13 h hm hx FU)) ((lX6_isText_0 _ _ _ _).trans hG) (Nat.le_of_ble_eq_true rfl), Or.inl ⟨3, _, 6, _, _, rfl, by decide, rfl, qCk_6, rfl⟩⟩
  · cases hG
theorem im_J0_length_8abf5 : Jvm.Cond.instanceMethod yJ0_length_8abf5 ∈ qTw := qm3 (List.mem_of_getElem? (i := 39) (by decide +kernel)) (by decide +kernel)
theorem se_J0_length_8abf5 : Jvm.Cond.selects yJ0_length_8abf5.cls yJ0_length_8abf5 yJ0_length_8abf5 ∈ qTw := qm3 (List.mem_of_getElem? (i := 40) (by decide +kernel)) (by decide +kernel)
theorem co_J0_length_8abf5 : Jvm.Cond.code yJ0_length_8abf5 cJ0_length_8abf5 1 (some .int) ∈ qTw := qm3 (List.mem_of_getElem? (i := 41) (by decide +kernel)) (by decide +kernel)
theorem yk_J0_length_8abf5 : qYk yJ0_length_8abf5 0 := ⟨⟨by decide +kernel, by decide +kernel⟩, by decide +kernel⟩
theorem ml_X6_51 : Jvm.Cond.methodLink RX6 51 yJ0_length_8abf5 ∈ qTw := qm3 (List.mem_of_getElem? (i := 38) (by decide +kernel)) (by decide +kernel)
theorem kd_X6_51 {C : qCx} {w : qWp} {cc : ByteArray} {nL dp n0 n1 pc : Nat} (h : qOk C w RX6 cc nL dp n0 n1) (d : decode cc pc = .ok (.invokevirtual 51, 3)) : qCallOk C w nL dp n0 n1 pc 1 1 yJ0_length_8abf5 (.code yJ0_length_8abf5 cJ0_length_8abf5 1 (some .int)) := kindV h d ml_X6_51 im_J0_length_8abf5 se_J0_length_8abf5 in_java_lang_String co_J0_length_8abf5 yk_J0_length_8abf5 (by decide)
theorem im_X6_isText : Jvm.Cond.instanceMethod yX6_isText ∈ qTw := qm3 (List.mem_of_getElem? (i := 88) (by decide +kernel)) (by decide +kernel)
theorem se_X6_isText : Jvm.Cond.selects yX6_isText.cls yX6_isText yX6_isText ∈ qTw := List.mem_filter.mpr ⟨List.mem_append_left _ (List.mem_of_getElem? (i := 1) (by decide +kernel)), rfl⟩
theorem co_X6_isText : Jvm.Cond.code yX6_isText cX6_isText 5 (some .boolean) ∈ qTw := qm3 (List.mem_of_getElem? (i := 89) (by decide +kernel)) (by decide +kernel)
theorem yk_X6_isText : qYk yX6_isText 3 := ⟨⟨by decide +kernel, by decide +kernel⟩, by decide +kernel⟩
theorem ml_X6_60 : Jvm.Cond.methodLink RX6 60 yX6_isText ∈ qTw := qm3 (List.mem_of_getElem? (i := 86) (by decide +kernel)) (by decide +kernel)
theorem kd_X6_60 {C : qCx} {w : qWp} {cc : ByteArray} {nL dp n0 n1 pc : Nat} (h : qOk C w RX6 cc nL dp n0 n1) (d : decode cc pc = .ok (.invokevirtual 60, 3)) : qCallOk C w nL dp n0 n1 pc 4 1 yX6_isText (.code yX6_isText cX6_isText 5 (some .boolean)) := kindV h d ml_X6_60 im_X6_isText se_X6_isText in_ParentEve_Reader co_X6_isText yk_X6_isText (by decide)
theorem dX6_wordOf_0 : decode cX6_wordOf 0 = .ok (.aload_n 0, 1) := by decide +kernel
theorem dX6_wordOf_1 : decode cX6_wordOf 1 = .ok (.getfield 11, 3) := by decide +kernel
theorem dX6_wordOf_4 : decode cX6_wordOf 4 = .ok (.iconst 1, 1) := by decide +kernel
theorem dX6_wordOf_5 : decode cX6_wordOf 5 = .ok (.if_icmp .eq 5, 3) := by decide +kernel
theorem dX6_wordOf_8 : decode cX6_wordOf 8 = .ok (.iconst (-1), 1) := by decide +kernel
theorem dX6_wordOf_9 : decode cX6_wordOf 9 = .ok (.ireturn, 1) := by decide +kernel
theorem dX6_wordOf_10 : decode cX6_wordOf 10 = .ok (.iconst 0, 1) := by decide +kernel
theorem dX6_wordOf_11 : decode cX6_wordOf 11 = .ok (.istore_n 2, 1) := by decide +kernel
theorem dX6_wordOf_12 : decode cX6_wordOf 12 = .ok (.iconst 0, 1) := by decide +kernel
theorem dX6_wordOf_13 : decode cX6_wordOf 13 = .ok (.istore_n 3, 1) := by decide +kernel
theorem dX6_wordOf_14 : decode cX6_wordOf 14 = .ok (.iconst 0, 1) := by decide +kernel
theorem dX6_wordOf_15 : decode cX6_wordOf 15 = .ok (.istore 4, 2) := by decide +kernel
theorem dX6_wordOf_17 : decode cX6_wordOf 17 = .ok (.iload 4, 2) := by decide +kernel
theorem dX6_wordOf_19 : decode cX6_wordOf 19 = .ok (.aload_n 1, 1) := by decide +kernel
theorem dX6_wordOf_20 : decode cX6_wordOf 20 = .ok (.invokevirtual 51, 3) := by decide +kernel
theorem dX6_wordOf_23 : decode cX6_wordOf 23 = .ok (.if_icmp .gt 50, 3) := by decide +kernel
theorem dX6_wordOf_26 : decode cX6_wordOf 26 = .ok (.iload 4, 2) := by decide +kernel
theorem dX6_wordOf_28 : decode cX6_wordOf 28 = .ok (.aload_n 1, 1) := by decide +kernel
theorem dX6_wordOf_29 : decode cX6_wordOf 29 = .ok (.invokevirtual 51, 3) := by decide +kernel
theorem dX6_wordOf_32 : decode cX6_wordOf 32 = .ok (.if_icmp .eq 14, 3) := by decide +kernel
theorem dX6_wordOf_35 : decode cX6_wordOf 35 = .ok (.aload_n 1, 1) := by decide +kernel
theorem dX6_wordOf_36 : decode cX6_wordOf 36 = .ok (.iload 4, 2) := by decide +kernel
theorem dX6_wordOf_38 : decode cX6_wordOf 38 = .ok (.invokevirtual 56, 3) := by decide +kernel
theorem dX6_wordOf_41 : decode cX6_wordOf 41 = .ok (.bipush 32, 2) := by decide +kernel
theorem dX6_wordOf_43 : decode cX6_wordOf 43 = .ok (.if_icmp .ne 24, 3) := by decide +kernel
theorem dX6_wordOf_46 : decode cX6_wordOf 46 = .ok (.aload_n 0, 1) := by decide +kernel
theorem dX6_wordOf_47 : decode cX6_wordOf 47 = .ok (.aload_n 1, 1) := by decide +kernel
theorem dX6_wordOf_48 : decode cX6_wordOf 48 = .ok (.iload_n 3, 1) := by decide +kernel
theorem dX6_wordOf_49 : decode cX6_wordOf 49 = .ok (.iload 4, 2) := by decide +kernel
theorem dX6_wordOf_51 : decode cX6_wordOf 51 = .ok (.invokevirtual 60, 3) := by decide +kernel
theorem dX6_wordOf_54 : decode cX6_wordOf 54 = .ok (.ifCond .eq 5, 3) := by decide +kernel
theorem dX6_wordOf_57 : decode cX6_wordOf 57 = .ok (.iload_n 2, 1) := by decide +kernel
theorem dX6_wordOf_58 : decode cX6_wordOf 58 = .ok (.ireturn, 1) := by decide +kernel
theorem dX6_wordOf_59 : decode cX6_wordOf 59 = .ok (.iinc 2 1, 3) := by decide +kernel
theorem dX6_wordOf_62 : decode cX6_wordOf 62 = .ok (.iload 4, 2) := by decide +kernel
theorem dX6_wordOf_64 : decode cX6_wordOf 64 = .ok (.iconst 1, 1) := by decide +kernel
theorem dX6_wordOf_65 : decode cX6_wordOf 65 = .ok (.iadd, 1) := by decide +kernel
theorem dX6_wordOf_66 : decode cX6_wordOf 66 = .ok (.istore_n 3, 1) := by decide +kernel
theorem dX6_wordOf_67 : decode cX6_wordOf 67 = .ok (.iinc 4 1, 3) := by decide +kernel
theorem dX6_wordOf_70 : decode cX6_wordOf 70 = .ok (.goto (-53), 3) := by decide +kernel
theorem dX6_wordOf_73 : decode cX6_wordOf 73 = .ok (.iconst (-1), 1) := by decide +kernel
theorem dX6_wordOf_74 : decode cX6_wordOf 74 = .ok (.ireturn, 1) := by decide +kernel
noncomputable def tX6_wordOf_38 (j12 : qT (Int32 × qM)) : qT (Int32 × qM) :=
  oInc 4 (1 : Int32) (j12)
noncomputable def wX6_wordOf_38 (k : Nat → Int32 → Int32 → Int32 → qM → Option (Int32 × qM)) : qT (Int32 × qM) := fun lo st m => match lo, st with
  | [some (.ref 3), some (.ref a1), some (.int a2), some (.int a3), some (.int a4)], [] => k a1 a2 a3 a4 m
  | _, _ => none
noncomputable def wX6_wordOf_12 (k : Nat → Int32 → Int32 → Int32 → qM → Option (Int32 × qM)) : qT (Int32 × qM) := fun lo st m => match lo, st with
  | [some (.ref 3), some (.ref a1), some (.int a2), some (.int a3), some (.int a4)], [] => k a1 a2 a3 a4 m
  | _, _ => none
set_option maxRecDepth 20000 in
theorem sX6_wordOf_38 {C : qCx} {w : qWp} (h : qOk C w RX6 cX6_wordOf 5 5 155 155) (hm : qMt C (some .int)) (hx : qNx C) {j12 : qT (Int32 × qM)} (k12 : qSnd C w 5 155 (qQf C w 155 155 jI) qfin 155 17 j12) : qSnd C w 5 155 (qQf C w 155 155 jI) qfin 155 67 (tX6_wordOf_38 j12) :=
  cInc (pc := 67) h dX6_wordOf_67 rfl (jGo (pc := 70) h dX6_wordOf_70 rfl (k12))
set_option maxRecDepth 20000 in
theorem lX6_wordOf_38 (k12 : Nat → Int32 → Int32 → Int32 → qM → Option (Int32 × qM)) (a1 : Nat) (a2 : Int32) (a3 : Int32) (a4 : Int32) (m : qM) : tX6_wordOf_38 (wX6_wordOf_12 k12) [some (.ref 3), some (.ref a1), some (.int a2), some (.int a3), some (.int a4)] [] m = fX6_wordOf_38 k12 a1 a2 a3 a4 m := rfl
theorem bX6_wordOf_38 {C : qCx} {w : qWp} (h : qOk C w RX6 cX6_wordOf 5 5 155 155) (hm : qMt C (some .int)) (hx : qNx C) {k12 : Nat → Int32 → Int32 → Int32 → qM → Option (Int32 × qM)} (h12 : qSnd C w 5 155 (qQf C w 155 155 jI) qfin 155 17 (wX6_wordOf_12 k12)) : qSnd C w 5 155 (qQf C w 155 155 jI) qfin 155 67 (wX6_wordOf_38 (fX6_wordOf_38 k12)) :=
  qSnd_of (fun lo st m x hr0 => by
    unfold wX6_wordOf_38 at hr0
    split at hr0
    · exact ⟨_, (qsub_e (qsub_e (qsub_e (qsub_e (qsub_e qsub_nil))))), (lX6_wordOf_38 _ _ _ _ _ _).trans hr0⟩
    · cases hr0) (sX6_wordOf_38 h hm hx h12)
noncomputable def tX6_wordOf_25 (j38 : qT (Int32 × qM)) : qT (Int32 × qM) :=
  oLa 0 (oLa 1 (oLi 3 (oLi 4 (oCi GX6_isText 4 (oEq (oInc 2 (1 : Int32) (oLi 4 (oC (.int (1 : Int32)) (o2 (· + ·) (oSi 3 (j38)))))) (oLi 2 (eI)))))))
noncomputable def wX6_wordOf_25 (k : Nat → Int32 → Int32 → Int32 → qM → Option (Int32 × qM)) : qT (Int32 × qM) := fun lo st m => match lo, st with
  | [some (.ref 3), some (.ref a1), some (.int a2), some (.int a3), some (.int a4)], [] => k a1 a2 a3 a4 m
  | _, _ => none
set_option maxRecDepth 20000 in
theorem sX6_wordOf_25 {C : qCx} {w : qWp} (h : qOk C w RX6 cX6_wordOf 5 5 155 155) (hm : qMt C (some .int)) (hx : qNx C) {j38 : qT (Int32 × qM)} (k38 : qSnd C w 5 155 (qQf C w 155 155 jI) qfin 155 67 j38) : qSnd C w 5 155 (qQf C w 155 155 jI) qfin 155 46 (tX6_wordOf_25 j38) :=
  cLa (pc := 46) h dX6_wordOf_46 rfl (cLa (pc := 47) h dX6_wordOf_47 rfl (cLi (pc := 48) h dX6_wordOf_48 rfl (cLI (pc := 49) h dX6_wordOf_49 (kCi (pc := 51) h (kd_X6_60 h dX6_wordOf_51) spX6_isText (by decide) (by decide) (by decide) (by decide) (jEq (pc := 54) h dX6_wordOf_54 rfl (cInc (pc := 59) h dX6_wordOf_59 rfl (cLI (pc := 62) h dX6_wordOf_62 (cC (pc := 64) h dX6_wordOf_64 rfl (aAdd (pc := 65) h dX6_wordOf_65 (cSi (pc := 66) h dX6_wordOf_66 rfl (k38)))))) (cLi (pc := 57) h dX6_wordOf_57 rfl (zI (pc := 58) h hm (Nat.le_refl _) dX6_wordOf_58)))))))
set_option maxRecDepth 20000 in
theorem lX6_wordOf_25 (k12 : Nat → Int32 → Int32 → Int32 → qM → Option (Int32 × qM)) (a1 : Nat) (a2 : Int32) (a3 : Int32) (a4 : Int32) (m : qM) : tX6_wordOf_25 (wX6_wordOf_38 (fX6_wordOf_38 k12)) [some (.ref 3), some (.ref a1), some (.int a2), some (.int a3), some (.int a4)] [] m = fX6_wordOf_25 k12 a1 a2 a3 a4 m := rfl
theorem bX6_wordOf_25 {C : qCx} {w : qWp} (h : qOk C w RX6 cX6_wordOf 5 5 155 155) (hm : qMt C (some .int)) (hx : qNx C) {k12 : Nat → Int32 → Int32 → Int32 → qM → Option (Int32 × qM)} (h12 : qSnd C w 5 155 (qQf C w 155 155 jI) qfin 155 17 (wX6_wordOf_12 k12)) : qSnd C w 5 155 (qQf C w 155 155 jI) qfin 155 46 (wX6_wordOf_25 (fX6_wordOf_25 k12)) :=
  qSnd_of (fun lo st m x hr0 => by
    unfold wX6_wordOf_25 at hr0
    split at hr0
    · exact ⟨_, (qsub_e (qsub_e (qsub_e (qsub_e (qsub_e qsub_nil))))), (lX6_wordOf_25 _ _ _ _ _ _).trans hr0⟩
    · cases hr0) (sX6_wordOf_25 h hm hx (bX6_wordOf_38 h hm hx h12))
noncomputable def tX6_wordOf_12 (j25 : qT (Int32 × qM)) (j38 : qT (Int32 × qM)) : qT (Int32 × qM) :=
  oLi 4 (oLa 1 (oCi GJ0_length_8abf5 1 (oCGt (oC (.int (-1 : Int32)) (eI)) (oLi 4 (oLa 1 (oCi GJ0_length_8abf5 1 (oCEq (j25) (oLa 1 (oLi 4 (oCi GJ0_charAt_5068e 2 (oC (.int (32 : Int32)) (oCEq (j25) (j38)))))))))))))
set_option maxRecDepth 20000 in
theorem sX6_wordOf_12 {C : qCx} {w : qWp} (h : qOk C w RX6 cX6_wordOf 5 5 155 155) (hm : qMt C (some .int)) (hx : qNx C) {j25 : qT (Int32 × qM)} {j38 : qT (Int32 × qM)} (k25 : qSnd C w 5 155 (qQf C w 155 155 jI) qfin 155 46 j25) (k38 : qSnd C w 5 155 (qQf C w 155 155 jI) qfin 155 67 j38) : qSnd C w 5 155 (qQf C w 155 155 jI) qfin 155 17 (tX6_wordOf_12 j25 j38) :=
  cLI (pc := 17) h dX6_wordOf_17 (cLa (pc := 19) h dX6_wordOf_19 rfl (kCi (pc := 20) h (kd_X6_51 h dX6_wordOf_20) spJ0_length_8abf5 (by decide) (by decide) (by decide) (by decide) (jCGt (pc := 23) h dX6_wordOf_23 rfl (cC (pc := 73) h dX6_wordOf_73 rfl (zI (pc := 74) h hm (Nat.le_refl _) dX6_wordOf_74)) (cLI (pc := 26) h dX6_wordOf_26 (cLa (pc := 28) h dX6_wordOf_28 rfl (kCi (pc := 29) h (kd_X6_51 h dX6_wordOf_29) spJ0_length_8abf5 (by decide) (by decide) (by decide) (by decide) (jCEq (pc := 32) h dX6_wordOf_32 rfl (k25) (cLa (pc := 35) h dX6_wordOf_35 rfl (cLI (pc := 36) h dX6_wordOf_36 (kCi (pc := 38) h (kd_X6_56 h dX6_wordOf_38) spJ0_charAt_5068e (by decide) (by decide) (by decide) (by decide) (cB (pc := 41) h dX6_wordOf_41 rfl (jCNe (pc := 43) h dX6_wordOf_43 rfl (k38) (k25)))))))))))))
set_option maxRecDepth 20000 in
theorem lX6_wordOf_12 (n : Nat) (a1 : Nat) (a2 : Int32) (a3 : Int32) (a4 : Int32) (m : qM) : tX6_wordOf_12 (wX6_wordOf_25 (fX6_wordOf_25 (fX6_wordOf_12 n))) (wX6_wordOf_38 (fX6_wordOf_38 (fX6_wordOf_12 n))) [some (.ref 3), some (.ref a1), some (.int a2), some (.int a3), some (.int a4)] [] m = fX6_wordOf_12 (n + 1) a1 a2 a3 a4 m := rfl
theorem bX6_wordOf_12 {C : qCx} {w : qWp} (h : qOk C w RX6 cX6_wordOf 5 5 155 155) (hm : qMt C (some .int)) (hx : qNx C) : ∀ n : Nat, qSnd C w 5 155 (qQf C w 155 155 jI) qfin 155 17 (wX6_wordOf_12 (fX6_wordOf_12 n))
  | 0 => qSnd_of0 (fun lo st m x hr0 => by
    unfold wX6_wordOf_12 at hr0
    split at hr0
    · cases hr0
    · cases hr0)
  | n + 1 => by
    have ih := bX6_wordOf_12 h hm hx n
    exact qSnd_of (fun lo st m x hr0 => by
    unfold wX6_wordOf_12 at hr0
    split at hr0
    · exact ⟨_, (qsub_e (qsub_e (qsub_e (qsub_e (qsub_e qsub_nil))))), (lX6_wordOf_12 n _ _ _ _ _).trans hr0⟩
    · cases hr0) (sX6_wordOf_12 h hm hx (bX6_wordOf_25 h hm hx ih) (bX6_wordOf_38 h hm hx ih))
noncomputable def tX6_wordOf_0 (j12 : qT (Int32 × qM)) : qT (Int32 × qM) :=
  oLa 0 (oGi 3 1 (oC (.int (1 : Int32)) (oCEq (oC (.int (0 : Int32)) (oSi 2 (oC (.int (0 : Int32)) (oSi 3 (oC (.int (0 : Int32)) (oSi 4 (j12))))))) (oC (.int (-1 : Int32)) (eI)))))
set_option maxRecDepth 20000 in
theorem sX6_wordOf_0 {C : qCx} {w : qWp} (h : qOk C w RX6 cX6_wordOf 5 5 155 155) (hm : qMt C (some .int)) (hx : qNx C) {j12 : qT (Int32 × qM)} (k12 : qSnd C w 5 155 (qQf C w 155 155 jI) qfin 155 17 j12) : qSnd C w 5 155 (qQf C w 155 155 jI) qfin 155 0 (tX6_wordOf_0 j12) :=
  cLa (pc := 0) h dX6_wordOf_0 rfl (gGi (pc := 1) h dX6_wordOf_1 ff_X6_11_3 (Nat.le_of_ble_eq_true rfl) (Nat.le_of_ble_eq_true rfl) (cC (pc := 4) h dX6_wordOf_4 rfl (jCEq (pc := 5) h dX6_wordOf_5 rfl (cC (pc := 10) h dX6_wordOf_10 rfl (cSi (pc := 11) h dX6_wordOf_11 rfl (cC (pc := 12) h dX6_wordOf_12 rfl (cSi (pc := 13) h dX6_wordOf_13 rfl (cC (pc := 14) h dX6_wordOf_14 rfl (cSI (pc := 15) h dX6_wordOf_15 (k12))))))) (cC (pc := 8) h dX6_wordOf_8 rfl (zI (pc := 9) h hm (Nat.le_refl _) dX6_wordOf_9)))))
set_option maxRecDepth 20000 in
theorem lX6_wordOf_0 (a1 : Nat) (m : qM) : tX6_wordOf_0 (wX6_wordOf_12 (fX6_wordOf_12 FU)) [some (.ref 3), some (.ref a1), none, none, none] [] m = fX6_wordOf_0 a1 m := rfl
noncomputable def GX6_wordOf : qG Int32 := fun av m => match av with
  | [.ref 3, .ref a1] => fX6_wordOf a1 m
  | _ => none
theorem spX6_wordOf : qSpI yX6_wordOf (.code yX6_wordOf cX6_wordOf 5 (some .int)) 5 qfin 155 155 1 GX6_wordOf := by
  intro av m x m' hG
  unfold GX6_wordOf at hG
  split at hG
  · rename_i a1
    rw [fX6_wordOf_d] at hG
    exact ⟨qmeet (J := jI) (r := (x, m')) (av := [.ref 3, .ref a1]) (by decide +kernel) (Nat.le_of_ble_eq_true rfl) (fun C w h hm hx hn => sX6_wordOf_0 h hm hx (bX6_wordOf_12 h hm hx FU)) ((lX6_wordOf_0 _ _).trans hG) (Nat.le_of_ble_eq_true rfl), Or.inl ⟨3, _, 6, _, _, rfl, by decide, rfl, qCk_6, rfl⟩⟩
  · cases hG
theorem dX6_fail_0 : decode cX6_fail 0 = .ok (.aload_n 0, 1) := by decide +kernel
theorem dX6_fail_1 : decode cX6_fail 1 = .ok (.iload_n 1, 1) := by decide +kernel
theorem dX6_fail_2 : decode cX6_fail 2 = .ok (.putfield 21, 3) := by decide +kernel
theorem dX6_fail_5 : decode cX6_fail 5 = .ok (.aload_n 0, 1) := by decide +kernel
theorem dX6_fail_6 : decode cX6_fail 6 = .ok (.aload_n 0, 1) := by decide +kernel
theorem dX6_fail_7 : decode cX6_fail 7 = .ok (.getfield 15, 3) := by decide +kernel
theorem dX6_fail_10 : decode cX6_fail 10 = .ok (.putfield 24, 3) := by decide +kernel
theorem dX6_fail_13 : decode cX6_fail 13 = .ok (.iconst (-1), 1) := by decide +kernel
theorem dX6_fail_14 : decode cX6_fail 14 = .ok (.ireturn, 1) := by decide +kernel
noncomputable def tX6_fail_0 : qT (Int32 × qM) :=
  oLa 0 (oLi 1 (oPi 3 4 (oLa 0 (oLa 0 (oGi 3 2 (oPi 3 5 (oC (.int (-1 : Int32)) (eI))))))))
set_option maxRecDepth 20000 in
theorem sX6_fail_0 {C : qCx} {w : qWp} (h : qOk C w RX6 cX6_fail 2 0 155 155) (hm : qMt C (some .int)) (hx : qNx C) : qSnd C w 2 155 (qQf C w 155 155 jI) qfin 155 0 (tX6_fail_0) :=
  cLa (pc := 0) h dX6_fail_0 rfl (cLi (pc := 1) h dX6_fail_1 rfl (gPi (pc := 2) h dX6_fail_2 ff_X6_21_3 (Or.inl rfl) (Nat.le_of_ble_eq_true rfl) (Nat.le_of_ble_eq_true rfl) (cLa (pc := 5) h dX6_fail_5 rfl (cLa (pc := 6) h dX6_fail_6 rfl (gGi (pc := 7) h dX6_fail_7 ff_X6_15_3 (Nat.le_of_ble_eq_true rfl) (Nat.le_of_ble_eq_true rfl) (gPi (pc := 10) h dX6_fail_10 ff_X6_24_3 (Or.inl rfl) (Nat.le_of_ble_eq_true rfl) (Nat.le_of_ble_eq_true rfl) (cC (pc := 13) h dX6_fail_13 rfl (zI (pc := 14) h hm (Nat.le_refl _) dX6_fail_14))))))))
set_option maxRecDepth 20000 in
theorem lX6_fail_0 (a1 : Int32) (m : qM) : tX6_fail_0 [some (.ref 3), some (.int a1)] [] m = fX6_fail_0 a1 m := rfl
noncomputable def GX6_fail : qG Int32 := fun av m => match av with
  | [.ref 3, .int a1] => fX6_fail a1 m
  | _ => none
theorem spX6_fail : qSpI yX6_fail (.code yX6_fail cX6_fail 2 (some .int)) 0 qfin 155 155 1 GX6_fail := by
  intro av m x m' hG
  unfold GX6_fail at hG
  split at hG
  · rename_i a1
    rw [fX6_fail_d] at hG
    exact ⟨qmeet (J := jI) (r := (x, m')) (av := [.ref 3, .int a1]) (by decide +kernel) (Nat.le_of_ble_eq_true rfl) (fun C w h hm hx hn => sX6_fail_0 h hm hx) ((lX6_fail_0 _ _).trans hG) (Nat.le_of_ble_eq_true rfl), Or.inl ⟨3, _, 6, _, _, rfl, by decide, rfl, qCk_6, rfl⟩⟩
  · cases hG
theorem im_X6_step : Jvm.Cond.instanceMethod yX6_step ∈ qTw := qm3 (List.mem_of_getElem? (i := 8) (by decide +kernel)) (by decide +kernel)
theorem se_X6_step : Jvm.Cond.selects yX6_step.cls yX6_step yX6_step ∈ qTw := qm3 (List.mem_of_getElem? (i := 9) (by decide +kernel)) (by decide +kernel)
theorem co_X6_step : Jvm.Cond.code yX6_step cX6_step 2 none ∈ qTw := qm3 (List.mem_of_getElem? (i := 10) (by decide +kernel)) (by decide +kernel)
theorem yk_X6_step : qYk yX6_step 0 := ⟨⟨by decide +kernel, by decide +kernel⟩, by decide +kernel⟩
theorem ml_X6_64 : Jvm.Cond.methodLink RX6 64 yX6_step ∈ qTw := qm3 (List.mem_of_getElem? (i := 106) (by decide +kernel)) (by decide +kernel)
theorem kd_X6_64 {C : qCx} {w : qWp} {cc : ByteArray} {nL dp n0 n1 pc : Nat} (h : qOk C w RX6 cc nL dp n0 n1) (d : decode cc pc = .ok (.invokevirtual 64, 3)) : qCallOk C w nL dp n0 n1 pc 1 1 yX6_step (.code yX6_step cX6_step 2 none) := kindV h d ml_X6_64 im_X6_step se_X6_step in_ParentEve_Reader co_X6_step yk_X6_step (by decide)
theorem im_X6_wordOf : Jvm.Cond.instanceMethod yX6_wordOf ∈ qTw := qm3 (List.mem_of_getElem? (i := 35) (by decide +kernel)) (by decide +kernel)
theorem se_X6_wordOf : Jvm.Cond.selects yX6_wordOf.cls yX6_wordOf yX6_wordOf ∈ qTw := qm3 (List.mem_of_getElem? (i := 36) (by decide +kernel)) (by decide +kernel)
theorem co_X6_wordOf : Jvm.Cond.code yX6_wordOf cX6_wordOf 5 (some .int) ∈ qTw := qm3 (List.mem_of_getElem? (i := 37) (by decide +kernel)) (by decide +kernel)
theorem yk_X6_wordOf : qYk yX6_wordOf 1 := ⟨⟨by decide +kernel, by decide +kernel⟩, by decide +kernel⟩
theorem ml_X6_67 : Jvm.Cond.methodLink RX6 67 yX6_wordOf ∈ qTw := qm3 (List.mem_of_getElem? (i := 167) (by decide +kernel)) (by decide +kernel)
theorem kd_X6_67 {C : qCx} {w : qWp} {cc : ByteArray} {nL dp n0 n1 pc : Nat} (h : qOk C w RX6 cc nL dp n0 n1) (d : decode cc pc = .ok (.invokevirtual 67, 3)) : qCallOk C w nL dp n0 n1 pc 2 1 yX6_wordOf (.code yX6_wordOf cX6_wordOf 5 (some .int)) := kindV h d ml_X6_67 im_X6_wordOf se_X6_wordOf in_ParentEve_Reader co_X6_wordOf yk_X6_wordOf (by decide)
theorem im_X6_fail : Jvm.Cond.instanceMethod yX6_fail ∈ qTw := qm3 (List.mem_of_getElem? (i := 92) (by decide +kernel)) (by decide +kernel)
theorem se_X6_fail : Jvm.Cond.selects yX6_fail.cls yX6_fail yX6_fail ∈ qTw := qm3 (List.mem_of_getElem? (i := 93) (by decide +kernel)) (by decide +kernel)
theorem co_X6_fail : Jvm.Cond.code yX6_fail cX6_fail 2 (some .int) ∈ qTw := qm3 (List.mem_of_getElem? (i := 94) (by decide +kernel)) (by decide +kernel)
theorem yk_X6_fail : qYk yX6_fail 1 := ⟨⟨by decide +kernel, by decide +kernel⟩, by decide +kernel⟩
theorem ml_X6_71 : Jvm.Cond.methodLink RX6 71 yX6_fail ∈ qTw := qm3 (List.mem_of_getElem? (i := 107) (by decide +kernel)) (by decide +kernel)
theorem kd_X6_71 {C : qCx} {w : qWp} {cc : ByteArray} {nL dp n0 n1 pc : Nat} (h : qOk C w RX6 cc nL dp n0 n1) (d : decode cc pc = .ok (.invokevirtual 71, 3)) : qCallOk C w nL dp n0 n1 pc 2 1 yX6_fail (.code yX6_fail cX6_fail 2 (some .int)) := kindV h d ml_X6_71 im_X6_fail se_X6_fail in_ParentEve_Reader co_X6_fail yk_X6_fail (by decide)
theorem dX6_takeWordOf_0 : decode cX6_takeWordOf 0 = .ok (.aload_n 0, 1) := by decide +kernel
theorem dX6_takeWordOf_1 : decode cX6_takeWordOf 1 = .ok (.invokevirtual 64, 3) := by decide +kernel
theorem dX6_takeWordOf_4 : decode cX6_takeWordOf 4 = .ok (.aload_n 0, 1) := by decide +kernel
theorem dX6_takeWordOf_5 : decode cX6_takeWordOf 5 = .ok (.aload_n 1, 1) := by decide +kernel
theorem dX6_takeWordOf_6 : decode cX6_takeWordOf 6 = .ok (.invokevirtual 67, 3) := by decide +kernel
theorem dX6_takeWordOf_9 : decode cX6_takeWordOf 9 = .ok (.istore_n 2, 1) := by decide +kernel
theorem dX6_takeWordOf_10 : decode cX6_takeWordOf 10 = .ok (.iload_n 2, 1) := by decide +kernel
theorem dX6_takeWordOf_11 : decode cX6_takeWordOf 11 = .ok (.iconst (-1), 1) := by decide +kernel
theorem dX6_takeWordOf_12 : decode cX6_takeWordOf 12 = .ok (.if_icmp .ne 11, 3) := by decide +kernel
theorem dX6_takeWordOf_15 : decode cX6_takeWordOf 15 = .ok (.aload_n 0, 1) := by decide +kernel
theorem dX6_takeWordOf_16 : decode cX6_takeWordOf 16 = .ok (.iconst 1, 1) := by decide +kernel
theorem dX6_takeWordOf_17 : decode cX6_takeWordOf 17 = .ok (.invokevirtual 71, 3) := by decide +kernel
theorem dX6_takeWordOf_20 : decode cX6_takeWordOf 20 = .ok (.goto 4, 3) := by decide +kernel
theorem dX6_takeWordOf_23 : decode cX6_takeWordOf 23 = .ok (.iload_n 2, 1) := by decide +kernel
theorem dX6_takeWordOf_24 : decode cX6_takeWordOf 24 = .ok (.ireturn, 1) := by decide +kernel
noncomputable def tX6_takeWordOf_14 : qT (Int32 × qM) :=
  eI
noncomputable def wX6_takeWordOf_14 (k : Int32 → qM → Option (Int32 × qM)) : qT (Int32 × qM) := fun lo st m => match lo, st with
  | [_, _, _], [.int s0] => k s0 m
  | _, _ => none
set_option maxRecDepth 20000 in
theorem sX6_takeWordOf_14 {C : qCx} {w : qWp} (h : qOk C w RX6 cX6_takeWordOf 3 6 155 155) (hm : qMt C (some .int)) (hx : qNx C) : qSnd C w 3 155 (qQf C w 155 155 jI) qfin 155 24 (tX6_takeWordOf_14) :=
  zI (pc := 24) h hm (Nat.le_refl _) dX6_takeWordOf_24
set_option maxRecDepth 20000 in
theorem lX6_takeWordOf_14 (s0 : Int32) (m : qM) : tX6_takeWordOf_14 [none, none, none] [(.int s0)] m = fX6_takeWordOf_14 s0 m := rfl
theorem bX6_takeWordOf_14 {C : qCx} {w : qWp} (h : qOk C w RX6 cX6_takeWordOf 3 6 155 155) (hm : qMt C (some .int)) (hx : qNx C) : qSnd C w 3 155 (qQf C w 155 155 jI) qfin 155 24 (wX6_takeWordOf_14 fX6_takeWordOf_14) :=
  qSnd_of (fun lo st m x hr0 => by
    unfold wX6_takeWordOf_14 at hr0
    split at hr0
    · exact ⟨_, (qsub_n (qsub_n (qsub_n qsub_nil))), (lX6_takeWordOf_14 _ _).trans hr0⟩
    · cases hr0) (sX6_takeWordOf_14 h hm hx)
noncomputable def tX6_takeWordOf_0 (j14 : qT (Int32 × qM)) : qT (Int32 × qM) :=
  oLa 0 (oCv GX6_step 1 (oLa 0 (oLa 1 (oCi GX6_wordOf 2 (oSi 2 (oLi 2 (oC (.int (-1 : Int32)) (oCEq (oLa 0 (oC (.int (1 : Int32)) (oCi GX6_fail 2 (j14)))) (oLi 2 (j14))))))))))
set_option maxRecDepth 20000 in
theorem sX6_takeWordOf_0 {C : qCx} {w : qWp} (h : qOk C w RX6 cX6_takeWordOf 3 6 155 155) (hm : qMt C (some .int)) (hx : qNx C) {j14 : qT (Int32 × qM)} (k14 : qSnd C w 3 155 (qQf C w 155 155 jI) qfin 155 24 j14) : qSnd C w 3 155 (qQf C w 155 155 jI) qfin 155 0 (tX6_takeWordOf_0 j14) :=
  cLa (pc := 0) h dX6_takeWordOf_0 rfl (kCv (pc := 1) h (kd_X6_64 h dX6_takeWordOf_1) spX6_step (by decide) (by decide) (by decide) (by decide) (cLa (pc := 4) h dX6_takeWordOf_4 rfl (cLa (pc := 5) h dX6_takeWordOf_5 rfl (kCi (pc := 6) h (kd_X6_67 h dX6_takeWordOf_6) spX6_wordOf (by decide) (by decide) (by decide) (by decide) (cSi (pc := 9) h dX6_takeWordOf_9 rfl (cLi (pc := 10) h dX6_takeWordOf_10 rfl (cC (pc := 11) h dX6_takeWordOf_11 rfl (jCNe (pc := 12) h dX6_takeWordOf_12 rfl (cLi (pc := 23) h dX6_takeWordOf_23 rfl (k14)) (cLa (pc := 15) h dX6_takeWordOf_15 rfl (cC (pc := 16) h dX6_takeWordOf_16 rfl (kCi (pc := 17) h (kd_X6_71 h dX6_takeWordOf_17) spX6_fail (by decide) (by decide) (by decide) (by decide) (jGo (pc := 20) h dX6_takeWordOf_20 rfl (k14)))))))))))))
set_option maxRecDepth 20000 in
theorem lX6_takeWordOf_0 (a1 : Nat) (m : qM) : tX6_takeWordOf_0 (wX6_takeWordOf_14 fX6_takeWordOf_14) [some (.ref 3), some (.ref a1), none] [] m = fX6_takeWordOf_0 a1 m := rfl
noncomputable def GX6_takeWordOf : qG Int32 := fun av m => match av with
  | [.ref 3, .ref a1] => fX6_takeWordOf a1 m
  | _ => none
theorem spX6_takeWordOf : qSpI yX6_takeWordOf (.code yX6_takeWordOf cX6_takeWordOf 3 (some .int)) 6 qfin 155 155 1 GX6_takeWordOf := by
  intro av m x m' hG
  unfold GX6_takeWordOf at hG
  split at hG
  · rename_i a1
    rw [fX6_takeWordOf_d] at hG
    exact ⟨qmeet (J := jI) (r := (x, m')) (av := [.ref 3, .ref a1]) (by decide +kernel) (Nat.le_of_ble_eq_true rfl) (fun C w h hm hx hn => sX6_takeWordOf_0 h hm hx (bX6_takeWordOf_14 h hm hx)) ((lX6_takeWordOf_0 _ _).trans hG) (Nat.le_of_ble_eq_true rfl), Or.inl ⟨3, _, 6, _, _, rfl, by decide, rfl, qCk_6, rfl⟩⟩
  · cases hG
theorem dX6_takeNumber_0 : decode cX6_takeNumber 0 = .ok (.aload_n 0, 1) := by decide +kernel
theorem dX6_takeNumber_1 : decode cX6_takeNumber 1 = .ok (.invokevirtual 64, 3) := by decide +kernel
theorem dX6_takeNumber_4 : decode cX6_takeNumber 4 = .ok (.aload_n 0, 1) := by decide +kernel
theorem dX6_takeNumber_5 : decode cX6_takeNumber 5 = .ok (.getfield 11, 3) := by decide +kernel
theorem dX6_takeNumber_8 : decode cX6_takeNumber 8 = .ok (.iconst 2, 1) := by decide +kernel
theorem dX6_takeNumber_9 : decode cX6_takeNumber 9 = .ok (.if_icmp .eq 9, 3) := by decide +kernel
theorem dX6_takeNumber_12 : decode cX6_takeNumber 12 = .ok (.aload_n 0, 1) := by decide +kernel
theorem dX6_takeNumber_13 : decode cX6_takeNumber 13 = .ok (.iconst 1, 1) := by decide +kernel
theorem dX6_takeNumber_14 : decode cX6_takeNumber 14 = .ok (.invokevirtual 71, 3) := by decide +kernel
theorem dX6_takeNumber_17 : decode cX6_takeNumber 17 = .ok (.ireturn, 1) := by decide +kernel
theorem dX6_takeNumber_18 : decode cX6_takeNumber 18 = .ok (.iconst 0, 1) := by decide +kernel
theorem dX6_takeNumber_19 : decode cX6_takeNumber 19 = .ok (.istore_n 3, 1) := by decide +kernel
theorem dX6_takeNumber_20 : decode cX6_takeNumber 20 = .ok (.aload_n 0, 1) := by decide +kernel
theorem dX6_takeNumber_21 : decode cX6_takeNumber 21 = .ok (.getfield 15, 3) := by decide +kernel
theorem dX6_takeNumber_24 : decode cX6_takeNumber 24 = .ok (.istore 4, 2) := by decide +kernel
theorem dX6_takeNumber_26 : decode cX6_takeNumber 26 = .ok (.iload 4, 2) := by decide +kernel
theorem dX6_takeNumber_28 : decode cX6_takeNumber 28 = .ok (.aload_n 0, 1) := by decide +kernel
theorem dX6_takeNumber_29 : decode cX6_takeNumber 29 = .ok (.getfield 18, 3) := by decide +kernel
theorem dX6_takeNumber_32 : decode cX6_takeNumber 32 = .ok (.if_icmp .ge 27, 3) := by decide +kernel
theorem dX6_takeNumber_35 : decode cX6_takeNumber 35 = .ok (.iload_n 3, 1) := by decide +kernel
theorem dX6_takeNumber_36 : decode cX6_takeNumber 36 = .ok (.bipush 10, 2) := by decide +kernel
theorem dX6_takeNumber_38 : decode cX6_takeNumber 38 = .ok (.imul, 1) := by decide +kernel
theorem dX6_takeNumber_39 : decode cX6_takeNumber 39 = .ok (.aload_n 0, 1) := by decide +kernel
theorem dX6_takeNumber_40 : decode cX6_takeNumber 40 = .ok (.getfield 27, 3) := by decide +kernel
theorem dX6_takeNumber_43 : decode cX6_takeNumber 43 = .ok (.iload 4, 2) := by decide +kernel
theorem dX6_takeNumber_45 : decode cX6_takeNumber 45 = .ok (.invokevirtual 37, 3) := by decide +kernel
theorem dX6_takeNumber_48 : decode cX6_takeNumber 48 = .ok (.iadd, 1) := by decide +kernel
theorem dX6_takeNumber_49 : decode cX6_takeNumber 49 = .ok (.bipush 48, 2) := by decide +kernel
theorem dX6_takeNumber_51 : decode cX6_takeNumber 51 = .ok (.isub, 1) := by decide +kernel
theorem dX6_takeNumber_52 : decode cX6_takeNumber 52 = .ok (.istore_n 3, 1) := by decide +kernel
theorem dX6_takeNumber_53 : decode cX6_takeNumber 53 = .ok (.iinc 4 1, 3) := by decide +kernel
theorem dX6_takeNumber_56 : decode cX6_takeNumber 56 = .ok (.goto (-30), 3) := by decide +kernel
theorem dX6_takeNumber_59 : decode cX6_takeNumber 59 = .ok (.iload_n 3, 1) := by decide +kernel
theorem dX6_takeNumber_60 : decode cX6_takeNumber 60 = .ok (.iload_n 1, 1) := by decide +kernel
theorem dX6_takeNumber_61 : decode cX6_takeNumber 61 = .ok (.iload_n 2, 1) := by decide +kernel
theorem dX6_takeNumber_62 : decode cX6_takeNumber 62 = .ok (.invokestatic 74, 3) := by decide +kernel
theorem dX6_takeNumber_65 : decode cX6_takeNumber 65 = .ok (.ifCond .eq 7, 3) := by decide +kernel
theorem dX6_takeNumber_68 : decode cX6_takeNumber 68 = .ok (.iload_n 3, 1) := by decide +kernel
theorem dX6_takeNumber_69 : decode cX6_takeNumber 69 = .ok (.goto 8, 3) := by decide +kernel
theorem dX6_takeNumber_72 : decode cX6_takeNumber 72 = .ok (.aload_n 0, 1) := by decide +kernel
theorem dX6_takeNumber_73 : decode cX6_takeNumber 73 = .ok (.iconst 2, 1) := by decide +kernel
theorem dX6_takeNumber_74 : decode cX6_takeNumber 74 = .ok (.invokevirtual 71, 3) := by decide +kernel
theorem dX6_takeNumber_77 : decode cX6_takeNumber 77 = .ok (.ireturn, 1) := by decide +kernel
noncomputable def tX6_takeNumber_15 (j42 : qT (Int32 × qM)) (j15 : qT (Int32 × qM)) : qT (Int32 × qM) :=
  oLi 4 (oLa 0 (oGi 3 3 (oCGe (oLi 3 (oLi 1 (oLi 2 (oCi GX11_within 3 (oEq (oLa 0 (oC (.int (2 : Int32)) (oCi GX6_fail 2 (j42)))) (oLi 3 (j42))))))) (oLi 3 (oC (.int (10 : Int32)) (o2 (· * ·) (oLa 0 (oGf 3 0 1 (oLi 4 (oCi GX8_byteAt 2 (o2 (· + ·) (oC (.int (48 : Int32)) (o2 (· - ·) (oSi 3 (oInc 4 (1 : Int32) (j15))))))))))))))))
noncomputable def wX6_takeNumber_15 (k : Int32 → Int32 → Int32 → Int32 → qM → Option (Int32 × qM)) : qT (Int32 × qM) := fun lo st m => match lo, st with
  | [some (.ref 3), some (.int a1), some (.int a2), some (.int a3), some (.int a4)], [] => k a1 a2 a3 a4 m
  | _, _ => none
noncomputable def wX6_takeNumber_42 (k : Int32 → qM → Option (Int32 × qM)) : qT (Int32 × qM) := fun lo st m => match lo, st with
  | [_, _, _, _, _], [.int s0] => k s0 m
  | _, _ => none
set_option maxRecDepth 20000 in
theorem sX6_takeNumber_15 {C : qCx} {w : qWp} (h : qOk C w RX6 cX6_takeNumber 5 3 155 155) (hm : qMt C (some .int)) (hx : qNx C) {j42 : qT (Int32 × qM)} {j15 : qT (Int32 × qM)} (k42 : qSnd C w 5 155 (qQf C w 155 155 jI) qfin 155 77 j42) (k15 : qSnd C w 5 155 (qQf C w 155 155 jI) qfin 155 26 j15) : qSnd C w 5 155 (qQf C w 155 155 jI) qfin 155 26 (tX6_takeNumber_15 j42 j15) :=
  cLI (pc := 26) h dX6_takeNumber_26 (cLa (pc := 28) h dX6_takeNumber_28 rfl (gGi (pc := 29) h dX6_takeNumber_29 ff_X6_18_3 (Nat.le_of_ble_eq_true rfl) (Nat.le_of_ble_eq_true rfl) (jCGe (pc := 32) h dX6_takeNumber_32 rfl (cLi (pc := 59) h dX6_takeNumber_59 rfl (cLi (pc := 60) h dX6_takeNumber_60 rfl (cLi (pc := 61) h dX6_takeNumber_61 rfl (kCi (pc := 62) h (kd_X6_74 h dX6_takeNumber_62) spX11_within (by decide) (by decide) (by decide) (by decide) (jEq (pc := 65) h dX6_takeNumber_65 rfl (cLa (pc := 72) h dX6_takeNumber_72 rfl (cC (pc := 73) h dX6_takeNumber_73 rfl (kCi (pc := 74) h (kd_X6_71 h dX6_takeNumber_74) spX6_fail (by decide) (by decide) (by decide) (by decide) (k42)))) (cLi (pc := 68) h dX6_takeNumber_68 rfl (jGo (pc := 69) h dX6_takeNumber_69 rfl (k42)))))))) (cLi (pc := 35) h dX6_takeNumber_35 rfl (cB (pc := 36) h dX6_takeNumber_36 rfl (aMul (pc := 38) h dX6_takeNumber_38 (cLa (pc := 39) h dX6_takeNumber_39 rfl (gGf (pc := 40) h dX6_takeNumber_40 ff_X6_27_3 (Nat.le_of_ble_eq_true rfl) (Nat.le_of_ble_eq_true rfl) rfl (cLI (pc := 43) h dX6_takeNumber_43 (kCi (pc := 45) h (kd_X6_37 h dX6_takeNumber_45) spX8_byteAt (by decide) (by decide) (by decide) (by decide) (aAdd (pc := 48) h dX6_takeNumber_48 (cB (pc := 49) h dX6_takeNumber_49 rfl (aSub (pc := 51) h dX6_takeNumber_51 (cSi (pc := 52) h dX6_takeNumber_52 rfl (cInc (pc := 53) h dX6_takeNumber_53 rfl (jGo (pc := 56) h dX6_takeNumber_56 rfl (k15)))))))))))))))))
set_option maxRecDepth 20000 in
theorem lX6_takeNumber_15 (k42 : Int32 → qM → Option (Int32 × qM)) (n : Nat) (a1 : Int32) (a2 : Int32) (a3 : Int32) (a4 : Int32) (m : qM) : tX6_takeNumber_15 (wX6_takeNumber_42 k42) (wX6_takeNumber_15 ((fX6_takeNumber_15 k42 n))) [some (.ref 3), some (.int a1), some (.int a2), some (.int a3), some (.int a4)] [] m = fX6_takeNumber_15 k42 (n + 1) a1 a2 a3 a4 m := rfl
theorem bX6_takeNumber_15 {C : qCx} {w : qWp} (h : qOk C w RX6 cX6_takeNumber 5 3 155 155) (hm : qMt C (some .int)) (hx : qNx C) {k42 : Int32 → qM → Option (Int32 × qM)} (h42 : qSnd C w 5 155 (qQf C w 155 155 jI) qfin 155 77 (wX6_takeNumber_42 k42)) : ∀ n : Nat, qSnd C w 5 155 (qQf C w 155 155 jI) qfin 155 26 (wX6_takeNumber_15 (fX6_takeNumber_15 k42 n))
  | 0 => qSnd_of0 (fun lo st m x hr0 => by
    unfold wX6_takeNumber_15 at hr0
    split at hr0
    · cases hr0
    · cases hr0)
  | n + 1 => by
    have ih := bX6_takeNumber_15 h hm hx h42 n
    exact qSnd_of (fun lo st m x hr0 => by
    unfold wX6_takeNumber_15 at hr0
    split at hr0
    · exact ⟨_, (qsub_e (qsub_e (qsub_e (qsub_e (qsub_e qsub_nil))))), (lX6_takeNumber_15 _ n _ _ _ _ _).trans hr0⟩
    · cases hr0) (sX6_takeNumber_15 h hm hx h42 ih)
noncomputable def tX6_takeNumber_42 : qT (Int32 × qM) :=
  eI
set_option maxRecDepth 20000 in
theorem sX6_takeNumber_42 {C : qCx} {w : qWp} (h : qOk C w RX6 cX6_takeNumber 5 3 155 155) (hm : qMt C (some .int)) (hx : qNx C) : qSnd C w 5 155 (qQf C w 155 155 jI) qfin 155 77 (tX6_takeNumber_42) :=
  zI (pc := 77) h hm (Nat.le_refl _) dX6_takeNumber_77
set_option maxRecDepth 20000 in
theorem lX6_takeNumber_42 (s0 : Int32) (m : qM) : tX6_takeNumber_42 [none, none, none, none, none] [(.int s0)] m = fX6_takeNumber_42 s0 m := rfl
theorem bX6_takeNumber_42 {C : qCx} {w : qWp} (h : qOk C w RX6 cX6_takeNumber 5 3 155 155) (hm : qMt C (some .int)) (hx : qNx C) : qSnd C w 5 155 (qQf C w 155 155 jI) qfin 155 77 (wX6_takeNumber_42 fX6_takeNumber_42) :=
  qSnd_of (fun lo st m x hr0 => by
    unfold wX6_takeNumber_42 at hr0
    split at hr0
    · exact ⟨_, (qsub_n (qsub_n (qsub_n (qsub_n (qsub_n qsub_nil))))), (lX6_takeNumber_42 _ _).trans hr0⟩
    · cases hr0) (sX6_takeNumber_42 h hm hx)
noncomputable def tX6_takeNumber_0 (j15 : qT (Int32 × qM)) : qT (Int32 × qM) :=
  oLa 0 (oCv GX6_step 1 (oLa 0 (oGi 3 1 (oC (.int (2 : Int32)) (oCEq (oC (.int (0 : Int32)) (oSi 3 (oLa 0 (oGi 3 2 (oSi 4 (j15)))))) (oLa 0 (oC (.int (1 : Int32)) (oCi GX6_fail 2 (eI)))))))))
set_option maxRecDepth 20000 in
theorem sX6_takeNumber_0 {C : qCx} {w : qWp} (h : qOk C w RX6 cX6_takeNumber 5 3 155 155) (hm : qMt C (some .int)) (hx : qNx C) {j15 : qT (Int32 × qM)} (k15 : qSnd C w 5 155 (qQf C w 155 155 jI) qfin 155 26 j15) : qSnd C w 5 155 (qQf C w 155 155 jI) qfin 155 0 (tX6_takeNumber_0 j15) :=
  cLa (pc := 0) h dX6_takeNumber_0 rfl (kCv (pc := 1) h (kd_X6_64 h dX6_takeNumber_1) spX6_step (by decide) (by decide) (by decide) (by decide) (cLa (pc := 4) h dX6_takeNumber_4 rfl (gGi (pc := 5) h dX6_takeNumber_5 ff_X6_11_3 (Nat.le_of_ble_eq_true rfl) (Nat.le_of_ble_eq_true rfl) (cC (pc := 8) h dX6_takeNumber_8 rfl (jCEq (pc := 9) h dX6_takeNumber_9 rfl (cC (pc := 18) h dX6_takeNumber_18 rfl (cSi (pc := 19) h dX6_takeNumber_19 rfl (cLa (pc := 20) h dX6_takeNumber_20 rfl (gGi (pc := 21) h dX6_takeNumber_21 ff_X6_15_3 (Nat.le_of_ble_eq_true rfl) (Nat.le_of_ble_eq_true rfl) (cSI (pc := 24) h dX6_takeNumber_24 (k15)))))) (cLa (pc := 12) h dX6_takeNumber_12 rfl (cC (pc := 13) h dX6_takeNumber_13 rfl (kCi (pc := 14) h (kd_X6_71 h dX6_takeNumber_14) spX6_fail (by decide) (by decide) (by decide) (by decide) (zI (pc := 17) h hm (Nat.le_refl _) dX6_takeNumber_17)))))))))
set_option maxRecDepth 20000 in
theorem lX6_takeNumber_0 (a1 : Int32) (a2 : Int32) (m : qM) : tX6_takeNumber_0 (wX6_takeNumber_15 (fX6_takeNumber_15 fX6_takeNumber_42 FU)) [some (.ref 3), some (.int a1), some (.int a2), none, none] [] m = fX6_takeNumber_0 a1 a2 m := rfl
noncomputable def GX6_takeNumber : qG Int32 := fun av m => match av with
  | [.ref 3, .int a1, .int a2] => fX6_takeNumber a1 a2 m
  | _ => none
theorem spX6_takeNumber : qSpI yX6_takeNumber (.code yX6_takeNumber cX6_takeNumber 5 (some .int)) 3 qfin 155 155 1 GX6_takeNumber := by
  intro av m x m' hG
  unfold GX6_takeNumber at hG
  split at hG
  · rename_i a1 a2
    rw [fX6_takeNumber_d] at hG
    exact ⟨qmeet (J := jI) (r := (x, m')) (av := [.ref 3, .int a1, .int a2]) (by decide +kernel) (Nat.le_of_ble_eq_true rfl) (fun C w h hm hx hn => sX6_takeNumber_0 h hm hx (bX6_takeNumber_15 h hm hx (bX6_takeNumber_42 h hm hx) FU)) ((lX6_takeNumber_0 _ _ _).trans hG) (Nat.le_of_ble_eq_true rfl), Or.inl ⟨3, _, 6, _, _, rfl, by decide, rfl, qCk_6, rfl⟩⟩
  · cases hG
theorem fs_X5_79 : (RX5, 79, "late waiting left must here slot", 10102) ∈ qStr := by decide +kernel
theorem im_X6_takeWordOf : Jvm.Cond.instanceMethod yX6_takeWordOf ∈ qTw := qm3 (List.mem_of_getElem? (i := 164) (by decide +kernel)) (by decide +kernel)
theorem se_X6_takeWordOf : Jvm.Cond.selects yX6_takeWordOf.cls yX6_takeWordOf yX6_takeWordOf ∈ qTw := qm3 (List.mem_of_getElem? (i := 165) (by decide +kernel)) (by decide +kernel)
theorem co_X6_takeWordOf : Jvm.Cond.code yX6_takeWordOf cX6_takeWordOf 3 (some .int) ∈ qTw := qm3 (List.mem_of_getElem? (i := 166) (by decide +kernel)) (by decide +kernel)
theorem yk_X6_takeWordOf : qYk yX6_takeWordOf 1 := ⟨⟨by decide +kernel, by decide +kernel⟩, by decide +kernel⟩
theorem ml_X5_76 : Jvm.Cond.methodLink RX5 76 yX6_takeWordOf ∈ qTw := qm3 (List.mem_of_getElem? (i := 163) (by decide +kernel)) (by decide +kernel)
theorem kd_X5_76 {C : qCx} {w : qWp} {cc : ByteArray} {nL dp n0 n1 pc : Nat} (h : qOk C w RX5 cc nL dp n0 n1) (d : decode cc pc = .ok (.invokevirtual 76, 3)) : qCallOk C w nL dp n0 n1 pc 2 1 yX6_takeWordOf (.code yX6_takeWordOf cX6_takeWordOf 3 (some .int)) := kindV h d ml_X5_76 im_X6_takeWordOf se_X6_takeWordOf in_ParentEve_Reader co_X6_takeWordOf yk_X6_takeWordOf (by decide)
theorem fs_X5_81 : (RX5, 81, "above below is", 10103) ∈ qStr := by decide +kernel
theorem im_X6_takeNumber : Jvm.Cond.instanceMethod yX6_takeNumber ∈ qTw := qm3 (List.mem_of_getElem? (i := 103) (by decide +kernel)) (by decide +kernel)
theorem se_X6_takeNumber : Jvm.Cond.selects yX6_takeNumber.cls yX6_takeNumber yX6_takeNumber ∈ qTw := qm3 (List.mem_of_getElem? (i := 104) (by decide +kernel)) (by decide +kernel)
theorem co_X6_takeNumber : Jvm.Cond.code yX6_takeNumber cX6_takeNumber 5 (some .int) ∈ qTw := qm3 (List.mem_of_getElem? (i := 105) (by decide +kernel)) (by decide +kernel)
theorem yk_X6_takeNumber : qYk yX6_takeNumber 2 := ⟨⟨by decide +kernel, by decide +kernel⟩, by decide +kernel⟩
theorem ml_X5_83 : Jvm.Cond.methodLink RX5 83 yX6_takeNumber ∈ qTw := qm3 (List.mem_of_getElem? (i := 169) (by decide +kernel)) (by decide +kernel)
theorem kd_X5_83 {C : qCx} {w : qWp} {cc : ByteArray} {nL dp n0 n1 pc : Nat} (h : qOk C w RX5 cc nL dp n0 n1) (d : decode cc pc = .ok (.invokevirtual 83, 3)) : qCallOk C w nL dp n0 n1 pc 3 1 yX6_takeNumber (.code yX6_takeNumber cX6_takeNumber 5 (some .int)) := kindV h d ml_X5_83 im_X6_takeNumber se_X6_takeNumber in_ParentEve_Reader co_X6_takeNumber yk_X6_takeNumber (by decide)
theorem dX5_takeCondition_0 : decode cX5_takeCondition 0 = .ok (.aload_n 0, 1) := by decide +kernel
theorem dX5_takeCondition_1 : decode cX5_takeCondition 1 = .ok (.getfield 15, 3) := by decide +kernel
theorem dX5_takeCondition_4 : decode cX5_takeCondition 4 = .ok (.iload_n 2, 1) := by decide +kernel
theorem dX5_takeCondition_5 : decode cX5_takeCondition 5 = .ok (.aload_n 1, 1) := by decide +kernel
theorem dX5_takeCondition_6 : decode cX5_takeCondition 6 = .ok (.ldc 79, 2) := by decide +kernel
theorem dX5_takeCondition_8 : decode cX5_takeCondition 8 = .ok (.invokevirtual 76, 3) := by decide +kernel
theorem dX5_takeCondition_11 : decode cX5_takeCondition 11 = .ok (.iastore, 1) := by decide +kernel
theorem dX5_takeCondition_12 : decode cX5_takeCondition 12 = .ok (.aload_n 0, 1) := by decide +kernel
theorem dX5_takeCondition_13 : decode cX5_takeCondition 13 = .ok (.getfield 15, 3) := by decide +kernel
theorem dX5_takeCondition_16 : decode cX5_takeCondition 16 = .ok (.iload_n 2, 1) := by decide +kernel
theorem dX5_takeCondition_17 : decode cX5_takeCondition 17 = .ok (.iaload, 1) := by decide +kernel
theorem dX5_takeCondition_18 : decode cX5_takeCondition 18 = .ok (.iconst (-1), 1) := by decide +kernel
theorem dX5_takeCondition_19 : decode cX5_takeCondition 19 = .ok (.if_icmp .ne 5, 3) := by decide +kernel
theorem dX5_takeCondition_22 : decode cX5_takeCondition 22 = .ok (.iconst 0, 1) := by decide +kernel
theorem dX5_takeCondition_23 : decode cX5_takeCondition 23 = .ok (.ireturn, 1) := by decide +kernel
theorem dX5_takeCondition_24 : decode cX5_takeCondition 24 = .ok (.aload_n 0, 1) := by decide +kernel
theorem dX5_takeCondition_25 : decode cX5_takeCondition 25 = .ok (.getfield 18, 3) := by decide +kernel
theorem dX5_takeCondition_28 : decode cX5_takeCondition 28 = .ok (.iload_n 2, 1) := by decide +kernel
theorem dX5_takeCondition_29 : decode cX5_takeCondition 29 = .ok (.aload_n 1, 1) := by decide +kernel
theorem dX5_takeCondition_30 : decode cX5_takeCondition 30 = .ok (.ldc 81, 2) := by decide +kernel
theorem dX5_takeCondition_32 : decode cX5_takeCondition 32 = .ok (.invokevirtual 76, 3) := by decide +kernel
theorem dX5_takeCondition_35 : decode cX5_takeCondition 35 = .ok (.iastore, 1) := by decide +kernel
theorem dX5_takeCondition_36 : decode cX5_takeCondition 36 = .ok (.aload_n 0, 1) := by decide +kernel
theorem dX5_takeCondition_37 : decode cX5_takeCondition 37 = .ok (.getfield 18, 3) := by decide +kernel
theorem dX5_takeCondition_40 : decode cX5_takeCondition 40 = .ok (.iload_n 2, 1) := by decide +kernel
theorem dX5_takeCondition_41 : decode cX5_takeCondition 41 = .ok (.iaload, 1) := by decide +kernel
theorem dX5_takeCondition_42 : decode cX5_takeCondition 42 = .ok (.iconst (-1), 1) := by decide +kernel
theorem dX5_takeCondition_43 : decode cX5_takeCondition 43 = .ok (.if_icmp .ne 5, 3) := by decide +kernel
theorem dX5_takeCondition_46 : decode cX5_takeCondition 46 = .ok (.iconst 0, 1) := by decide +kernel
theorem dX5_takeCondition_47 : decode cX5_takeCondition 47 = .ok (.ireturn, 1) := by decide +kernel
theorem dX5_takeCondition_48 : decode cX5_takeCondition 48 = .ok (.aload_n 0, 1) := by decide +kernel
theorem dX5_takeCondition_49 : decode cX5_takeCondition 49 = .ok (.getfield 21, 3) := by decide +kernel
theorem dX5_takeCondition_52 : decode cX5_takeCondition 52 = .ok (.iload_n 2, 1) := by decide +kernel
theorem dX5_takeCondition_53 : decode cX5_takeCondition 53 = .ok (.aload_n 1, 1) := by decide +kernel
theorem dX5_takeCondition_54 : decode cX5_takeCondition 54 = .ok (.iconst 0, 1) := by decide +kernel
theorem dX5_takeCondition_55 : decode cX5_takeCondition 55 = .ok (.sipush 999, 3) := by decide +kernel
theorem dX5_takeCondition_58 : decode cX5_takeCondition 58 = .ok (.invokevirtual 83, 3) := by decide +kernel
theorem dX5_takeCondition_61 : decode cX5_takeCondition 61 = .ok (.iastore, 1) := by decide +kernel
theorem dX5_takeCondition_62 : decode cX5_takeCondition 62 = .ok (.aload_n 0, 1) := by decide +kernel
theorem dX5_takeCondition_63 : decode cX5_takeCondition 63 = .ok (.getfield 21, 3) := by decide +kernel
theorem dX5_takeCondition_66 : decode cX5_takeCondition 66 = .ok (.iload_n 2, 1) := by decide +kernel
theorem dX5_takeCondition_67 : decode cX5_takeCondition 67 = .ok (.iaload, 1) := by decide +kernel
theorem dX5_takeCondition_68 : decode cX5_takeCondition 68 = .ok (.iconst (-1), 1) := by decide +kernel
theorem dX5_takeCondition_69 : decode cX5_takeCondition 69 = .ok (.if_icmp .eq 7, 3) := by decide +kernel
theorem dX5_takeCondition_72 : decode cX5_takeCondition 72 = .ok (.iconst 1, 1) := by decide +kernel
theorem dX5_takeCondition_73 : decode cX5_takeCondition 73 = .ok (.goto 4, 3) := by decide +kernel
theorem dX5_takeCondition_76 : decode cX5_takeCondition 76 = .ok (.iconst 0, 1) := by decide +kernel
theorem dX5_takeCondition_77 : decode cX5_takeCondition 77 = .ok (.ireturn, 1) := by decide +kernel
noncomputable def tX5_takeCondition_47 (r : Nat) : qT (Int32 × qM) :=
  eZ
noncomputable def wX5_takeCondition_47 (r : Nat) (k : Int32 → qM → Option (Int32 × qM)) : qT (Int32 × qM) := fun lo st m => match lo, st with
  | [_, _, _], [.int s0] => k s0 m
  | _, _ => none
set_option maxRecDepth 20000 in
theorem sX5_takeCondition_47 {C : qCx} {w : qWp} {r : Nat} (h : qOk C w RX5 cX5_takeCondition 3 7 155 155) (hm : qMt C (some .boolean)) (hx : qNx C) (hr : qpol r = true) : qSnd C w 3 155 (qQf C w 155 155 jI) qfin 155 77 (tX5_takeCondition_47 r) :=
  zZ (pc := 77) h hm (Nat.le_refl _) dX5_takeCondition_77
set_option maxRecDepth 20000 in
theorem lX5_takeCondition_47 (r : Nat) (hr : qpol r = true) (s0 : Int32) (m : qM) : tX5_takeCondition_47 r [none, none, none] [(.int s0)] m = fX5_takeCondition_47 r s0 m := by
  rcases qpol_cases hr with rfl | rfl | rfl | rfl | rfl <;> rfl
theorem bX5_takeCondition_47 {C : qCx} {w : qWp} {r : Nat} (h : qOk C w RX5 cX5_takeCondition 3 7 155 155) (hm : qMt C (some .boolean)) (hx : qNx C) (hr : qpol r = true) : qSnd C w 3 155 (qQf C w 155 155 jI) qfin 155 77 (wX5_takeCondition_47 r (fX5_takeCondition_47 r)) :=
  qSnd_of (fun lo st m x hr0 => by
    unfold wX5_takeCondition_47 at hr0
    split at hr0
    · exact ⟨_, (qsub_n (qsub_n (qsub_n qsub_nil))), (lX5_takeCondition_47 r hr _ _).trans hr0⟩
    · cases hr0) (sX5_takeCondition_47 h hm hx hr)
noncomputable def tX5_takeCondition_0 (r : Nat) (j47 : qT (Int32 × qM)) : qT (Int32 × qM) :=
  oLa 0 (oGf r 1 (r + 2) (oLi 2 (oLa 1 (oC (.ref 10102) (oCi GX6_takeWordOf 2 (oWi (r + 2) 32 (oLa 0 (oGf r 1 (r + 2) (oLi 2 (oAi (r + 2) 32 (oC (.int (-1 : Int32)) (oCEq (oC (.int (0 : Int32)) (eZ)) (oLa 0 (oGf r 2 (r + 3) (oLi 2 (oLa 1 (oC (.ref 10103) (oCi GX6_takeWordOf 2 (oWi (r + 3) 32 (oLa 0 (oGf r 2 (r + 3) (oLi 2 (oAi (r + 3) 32 (oC (.int (-1 : Int32)) (oCEq (oC (.int (0 : Int32)) (eZ)) (oLa 0 (oGf r 3 (r + 4) (oLi 2 (oLa 1 (oC (.int (0 : Int32)) (oC (.int (999 : Int32)) (oCi GX6_takeNumber 3 (oWi (r + 4) 32 (oLa 0 (oGf r 3 (r + 4) (oLi 2 (oAi (r + 4) 32 (oC (.int (-1 : Int32)) (oCEq (oC (.int (0 : Int32)) (j47)) (oC (.int (1 : Int32)) (j47)))))))))))))))))))))))))))))))))))))))))
set_option maxRecDepth 20000 in
theorem sX5_takeCondition_0 {C : qCx} {w : qWp} {r : Nat} (h : qOk C w RX5 cX5_takeCondition 3 7 155 155) (hm : qMt C (some .boolean)) (hx : qNx C) (hr : qpol r = true) {j47 : qT (Int32 × qM)} (k47 : qSnd C w 3 155 (qQf C w 155 155 jI) qfin 155 77 j47) : qSnd C w 3 155 (qQf C w 155 155 jI) qfin 155 0 (tX5_takeCondition_0 r j47) :=
  cLa (pc := 0) h dX5_takeCondition_0 rfl (gGf (pc := 1) h dX5_takeCondition_1 (ffp_X5_15_0 hr) (fp_hn_0 hr) (by decide) (fp_fin_1 hr) (cLi (pc := 4) h dX5_takeCondition_4 rfl (cLa (pc := 5) h dX5_takeCondition_5 rfl (cStr (pc := 6) h dX5_takeCondition_6 fs_X5_79 (kCi (pc := 8) h (kd_X5_76 h dX5_takeCondition_8) spX6_takeWordOf (by decide) (by decide) (by decide) (by decide) (rWi (pc := 11) h dX5_takeCondition_11 (fp_hs_2 hr) (fp_hn_2 hr) (by decide) (cLa (pc := 12) h dX5_takeCondition_12 rfl (gGf (pc := 13) h dX5_takeCondition_13 (ffp_X5_15_0 hr) (fp_hn_0 hr) (by decide) (fp_fin_1 hr) (cLi (pc := 16) h dX5_takeCondition_16 rfl (rAi (pc := 17) h dX5_takeCondition_17 (fp_hs_2 hr) (fp_hn_2 hr) (by decide) (cC (pc := 18) h dX5_takeCondition_18 rfl (jCNe (pc := 19) h dX5_takeCondition_19 rfl (cLa (pc := 24) h dX5_takeCondition_24 rfl (gGf (pc := 25) h dX5_takeCondition_25 (ffp_X5_18_0 hr) (fp_hn_0 hr) (by decide) (fp_fin_2 hr) (cLi (pc := 28) h dX5_takeCondition_28 rfl (cLa (pc := 29) h dX5_takeCondition_29 rfl (cStr (pc := 30) h dX5_takeCondition_30 fs_X5_81 (kCi (pc := 32) h (kd_X5_76 h dX5_takeCondition_32) spX6_takeWordOf (by decide) (by decide) (by decide) (by decide) (rWi (pc := 35) h dX5_takeCondition_35 (fp_hs_3 hr) (fp_hn_3 hr) (by decide) (cLa (pc := 36) h dX5_takeCondition_36 rfl (gGf (pc := 37) h dX5_takeCondition_37 (ffp_X5_18_0 hr) (fp_hn_0 hr) (by decide) (fp_fin_2 hr) (cLi (pc := 40) h dX5_takeCondition_40 rfl (rAi (pc := 41) h dX5_takeCondition_41 (fp_hs_3 hr) (fp_hn_3 hr) (by decide) (cC (pc := 42) h dX5_takeCondition_42 rfl (jCNe (pc := 43) h dX5_takeCondition_43 rfl (cLa (pc := 48) h dX5_takeCondition_48 rfl (gGf (pc := 49) h dX5_takeCondition_49 (ffp_X5_21_0 hr) (fp_hn_0 hr) (by decide) (fp_fin_3 hr) (cLi (pc := 52) h dX5_takeCondition_52 rfl (cLa (pc := 53) h dX5_takeCondition_53 rfl (cC (pc := 54) h dX5_takeCondition_54 rfl (cS (pc := 55) h dX5_takeCondition_55 rfl (kCi (pc := 58) h (kd_X5_83 h dX5_takeCondition_58) spX6_takeNumber (by decide) (by decide) (by decide) (by decide) (rWi (pc := 61) h dX5_takeCondition_61 (fp_hs_4 hr) (fp_hn_4 hr) (by decide) (cLa (pc := 62) h dX5_takeCondition_62 rfl (gGf (pc := 63) h dX5_takeCondition_63 (ffp_X5_21_0 hr) (fp_hn_0 hr) (by decide) (fp_fin_3 hr) (cLi (pc := 66) h dX5_takeCondition_66 rfl (rAi (pc := 67) h dX5_takeCondition_67 (fp_hs_4 hr) (fp_hn_4 hr) (by decide) (cC (pc := 68) h dX5_takeCondition_68 rfl (jCEq (pc := 69) h dX5_takeCondition_69 rfl (cC (pc := 76) h dX5_takeCondition_76 rfl (k47)) (cC (pc := 72) h dX5_takeCondition_72 rfl (jGo (pc := 73) h dX5_takeCondition_73 rfl (k47))))))))))))))))) (cC (pc := 46) h dX5_takeCondition_46 rfl (zZ (pc := 47) h hm (Nat.le_refl _) dX5_takeCondition_47))))))))))))))) (cC (pc := 22) h dX5_takeCondition_22 rfl (zZ (pc := 23) h hm (Nat.le_refl _) dX5_takeCondition_23))))))))))))))
set_option maxRecDepth 20000 in
theorem lX5_takeCondition_0 (r : Nat) (hr : qpol r = true) (a2 : Int32) (m : qM) : tX5_takeCondition_0 r (wX5_takeCondition_47 r (fX5_takeCondition_47 r)) [some (.ref r), some (.ref 3), some (.int a2)] [] m = fX5_takeCondition_0 r a2 m := by
  rcases qpol_cases hr with rfl | rfl | rfl | rfl | rfl <;> rfl
noncomputable def GX5_takeCondition : qG Int32 := fun av m => match av with
  | [.ref r, .ref 3, .int a2] => bif qpol r then fX5_takeCondition r a2 m else none
  | _ => none
theorem spX5_takeCondition : qSpI yX5_takeCondition (.code yX5_takeCondition cX5_takeCondition 3 (some .boolean)) 7 qfin 155 155 1 GX5_takeCondition := by
  intro av m x m' hG
  unfold GX5_takeCondition at hG
  split at hG
  · rename_i r a2
    obtain ⟨hr, hG⟩ := qbt hG
    rw [fX5_takeCondition_d] at hG
    exact ⟨qmeet (J := jI) (r := (x, m')) (av := [.ref r, .ref 3, .int a2]) (by decide +kernel) (Nat.le_of_ble_eq_true rfl) (fun C w h hm hx hn => sX5_takeCondition_0 h hm hx hr (bX5_takeCondition_47 h hm hx hr)) ((lX5_takeCondition_0 _ hr _ _).trans hG) (Nat.le_of_ble_eq_true rfl), qRc_pol hr rfl⟩
  · cases hG

