/-! methods (by program): J0_coder_7d493, J0_length_8abf5, J0_isLatin1_aae02, J3_checkIndex_8e157, J0_checkIndex_df160, J1_charAt_3b067, J0_charAt_5068e, X4_laid, X4_asks, X4_isMust, X4_familyOf, X3_yearsOf, X4_isLaid, X3_familySlots, X3_teacherSlots, X3_tongueOf, X4_askOf, X3_walkSlots, J9_max_7cf53, J9_min_7cf53, X11_slotsFrom, X4_tooNearForWalks, X3_apartFrom, X11_has, X11_within, X7_told, X4_tooNearForApart, X4_tooManyInARow -/
theorem fz_J0_38 : Jvm.Cond.fieldLink RJ0 38 "java/lang/String" "COMPACT_STRINGS" "Z" ∈ qTw := qm3 (List.mem_of_getElem? (i := 46) (by decide +kernel)) (by decide +kernel)
theorem fv_J0_15 : Jvm.Cond.fieldLink RJ0 15 "java/lang/String" "coder" "B" ∈ qTw := qm9 (List.mem_of_getElem? (i := 168) (by decide +kernel)) (by decide +kernel)
theorem dJ0_coder_7d493_0 : decode cJ0_coder_7d493 0 = .ok (.getstatic 38, 3) := by decide +kernel
theorem dJ0_coder_7d493_3 : decode cJ0_coder_7d493 3 = .ok (.ifCond .eq 10, 3) := by decide +kernel
theorem dJ0_coder_7d493_6 : decode cJ0_coder_7d493 6 = .ok (.aload_n 0, 1) := by decide +kernel
theorem dJ0_coder_7d493_7 : decode cJ0_coder_7d493 7 = .ok (.getfield 15, 3) := by decide +kernel
theorem dJ0_coder_7d493_10 : decode cJ0_coder_7d493 10 = .ok (.goto 4, 3) := by decide +kernel
theorem dJ0_coder_7d493_13 : decode cJ0_coder_7d493 13 = .ok (.iconst 1, 1) := by decide +kernel
theorem dJ0_coder_7d493_14 : decode cJ0_coder_7d493 14 = .ok (.ireturn, 1) := by decide +kernel
noncomputable def tJ0_coder_7d493_6 : qT (Int32 × qM) :=
  eS
noncomputable def wJ0_coder_7d493_6 (k : Int32 → qM → Option (Int32 × qM)) : qT (Int32 × qM) := fun lo st m => match lo, st with
  | [_], [.int s0] => k s0 m
  | _, _ => none
set_option maxRecDepth 20000 in
theorem sJ0_coder_7d493_6 {C : qCx} {w : qWp} (h : qOk C w RJ0 cJ0_coder_7d493 1 0 155 155) (hm : qMt C (some .byte)) (hx : qNx C) : qSnd C w 1 155 (qQf C w 155 155 jI) qfin 155 14 (tJ0_coder_7d493_6) :=
  zS (pc := 14) (Or.inl rfl) h hm (Nat.le_refl _) dJ0_coder_7d493_14
set_option maxRecDepth 20000 in
theorem lJ0_coder_7d493_6 (s0 : Int32) (m : qM) : tJ0_coder_7d493_6 [none] [(.int s0)] m = fJ0_coder_7d493_6 s0 m := rfl
theorem bJ0_coder_7d493_6 {C : qCx} {w : qWp} (h : qOk C w RJ0 cJ0_coder_7d493 1 0 155 155) (hm : qMt C (some .byte)) (hx : qNx C) : qSnd C w 1 155 (qQf C w 155 155 jI) qfin 155 14 (wJ0_coder_7d493_6 fJ0_coder_7d493_6) :=
  qSnd_of (fun lo st m x hr0 => by
    unfold wJ0_coder_7d493_6 at hr0
    split at hr0
    · exact ⟨_, (qsub_n qsub_nil), (lJ0_coder_7d493_6 _ _).trans hr0⟩
    · cases hr0) (sJ0_coder_7d493_6 h hm hx)
noncomputable def tJ0_coder_7d493_0 (j6 : qT (Int32 × qM)) : qT (Int32 × qM) :=
  oC (.int (1 : Int32)) (oEq (oC (.int (1 : Int32)) (j6)) (oLa 0 (oSk (j6))))
set_option maxRecDepth 20000 in
theorem sJ0_coder_7d493_0 {C : qCx} {w : qWp} (h : qOk C w RJ0 cJ0_coder_7d493 1 0 155 155) (hm : qMt C (some .byte)) (hx : qNx C) {j6 : qT (Int32 × qM)} (k6 : qSnd C w 1 155 (qQf C w 155 155 jI) qfin 155 14 j6) : qSnd C w 1 155 (qQf C w 155 155 jI) qfin 155 0 (tJ0_coder_7d493_0 j6) :=
  tCs (pc := 0) h dJ0_coder_7d493_0 fz_J0_38 (jEq (pc := 3) h dJ0_coder_7d493_3 rfl (cC (pc := 13) h dJ0_coder_7d493_13 rfl (k6)) (cLa (pc := 6) h dJ0_coder_7d493_6 rfl (tSk (pc := 7) h dJ0_coder_7d493_7 fv_J0_15 (jGo (pc := 10) h dJ0_coder_7d493_10 rfl (k6)))))
set_option maxRecDepth 20000 in
theorem lJ0_coder_7d493_0 (a0 : Nat) (m : qM) : tJ0_coder_7d493_0 (wJ0_coder_7d493_6 fJ0_coder_7d493_6) [some (.ref a0)] [] m = fJ0_coder_7d493_0 a0 m := rfl
noncomputable def GJ0_coder_7d493 : qG Int32 := fun av m => match av with
  | [.ref a0] => bif qtx a0 then fJ0_coder_7d493 a0 m else none
  | _ => none
theorem spJ0_coder_7d493 : qSpI yJ0_coder_7d493 (.code yJ0_coder_7d493 cJ0_coder_7d493 1 (some .byte)) 0 qfin 155 155 1 GJ0_coder_7d493 := by
  intro av m x m' hG
  unfold GJ0_coder_7d493 at hG
  split at hG
  · rename_i a0
    obtain ⟨hr, hG⟩ := qbt hG
    rw [fJ0_coder_7d493_d] at hG
    exact ⟨qmeet (J := jI) (r := (x, m')) (av := [.ref a0]) (by decide +kernel) (Nat.le_of_ble_eq_true rfl) (fun C w h hm hx hn => sJ0_coder_7d493_0 h hm hx (bJ0_coder_7d493_6 h hm hx)) ((lJ0_coder_7d493_0 _ _).trans hG) (Nat.le_of_ble_eq_true rfl), qRc_txt hr rfl⟩
  · cases hG
theorem fv_J0_9 : Jvm.Cond.fieldLink RJ0 9 "java/lang/String" "value" "[B" ∈ qTw := qm9 (List.mem_of_getElem? (i := 167) (by decide +kernel)) (by decide +kernel)
theorem im_J0_coder_7d493 : Jvm.Cond.instanceMethod yJ0_coder_7d493 ∈ qTw := qm3 (List.mem_of_getElem? (i := 43) (by decide +kernel)) (by decide +kernel)
theorem se_J0_coder_7d493 : Jvm.Cond.selects yJ0_coder_7d493.cls yJ0_coder_7d493 yJ0_coder_7d493 ∈ qTw := qm3 (List.mem_of_getElem? (i := 44) (by decide +kernel)) (by decide +kernel)
theorem in_java_lang_String : Jvm.Cond.initialized "java/lang/String" ∈ qTw := qm1 (List.mem_of_getElem? (i := 19) (by decide +kernel)) (by decide +kernel)
theorem co_J0_coder_7d493 : Jvm.Cond.code yJ0_coder_7d493 cJ0_coder_7d493 1 (some .byte) ∈ qTw := qm3 (List.mem_of_getElem? (i := 45) (by decide +kernel)) (by decide +kernel)
theorem yk_J0_coder_7d493 : qYk yJ0_coder_7d493 0 := ⟨⟨by decide +kernel, by decide +kernel⟩, by decide +kernel⟩
theorem ml_J0_335 : Jvm.Cond.methodLink RJ0 335 yJ0_coder_7d493 ∈ qTw := qm3 (List.mem_of_getElem? (i := 42) (by decide +kernel)) (by decide +kernel)
theorem kd_J0_335 {C : qCx} {w : qWp} {cc : ByteArray} {nL dp n0 n1 pc : Nat} (h : qOk C w RJ0 cc nL dp n0 n1) (d : decode cc pc = .ok (.invokevirtual 335, 3)) : qCallOk C w nL dp n0 n1 pc 1 1 yJ0_coder_7d493 (.code yJ0_coder_7d493 cJ0_coder_7d493 1 (some .byte)) := kindV h d ml_J0_335 im_J0_coder_7d493 se_J0_coder_7d493 in_java_lang_String co_J0_coder_7d493 yk_J0_coder_7d493 (by decide)
theorem dJ0_length_8abf5_0 : decode cJ0_length_8abf5 0 = .ok (.aload_n 0, 1) := by decide +kernel
theorem dJ0_length_8abf5_1 : decode cJ0_length_8abf5 1 = .ok (.getfield 9, 3) := by decide +kernel
theorem dJ0_length_8abf5_4 : decode cJ0_length_8abf5 4 = .ok (.arraylength, 1) := by decide +kernel
theorem dJ0_length_8abf5_5 : decode cJ0_length_8abf5 5 = .ok (.aload_n 0, 1) := by decide +kernel
theorem dJ0_length_8abf5_6 : decode cJ0_length_8abf5 6 = .ok (.invokevirtual 335, 3) := by decide +kernel
theorem dJ0_length_8abf5_9 : decode cJ0_length_8abf5 9 = .ok (.ishr, 1) := by decide +kernel
theorem dJ0_length_8abf5_10 : decode cJ0_length_8abf5 10 = .ok (.ireturn, 1) := by decide +kernel
noncomputable def tJ0_length_8abf5_0 : qT (Int32 × qM) :=
  oLa 0 (oSv (oTl (oLa 0 (oCi GJ0_coder_7d493 1 (o2 (fun x y => x >>> (y &&& 31)) (eI))))))
set_option maxRecDepth 20000 in
theorem sJ0_length_8abf5_0 {C : qCx} {w : qWp} (h : qOk C w RJ0 cJ0_length_8abf5 1 1 155 155) (hm : qMt C (some .int)) (hx : qNx C) : qSnd C w 1 155 (qQf C w 155 155 jI) qfin 155 0 (tJ0_length_8abf5_0) :=
  cLa (pc := 0) h dJ0_length_8abf5_0 rfl (tSv (pc := 1) h dJ0_length_8abf5_1 fv_J0_9 (tTl (pc := 4) h dJ0_length_8abf5_4 (cLa (pc := 5) h dJ0_length_8abf5_5 rfl (kCi (pc := 6) h (kd_J0_335 h dJ0_length_8abf5_6) spJ0_coder_7d493 (by decide) (by decide) (by decide) (by decide) (aShr (pc := 9) h dJ0_length_8abf5_9 (zI (pc := 10) h hm (Nat.le_refl _) dJ0_length_8abf5_10))))))
set_option maxRecDepth 20000 in
theorem lJ0_length_8abf5_0 (a0 : Nat) (m : qM) : tJ0_length_8abf5_0 [some (.ref a0)] [] m = fJ0_length_8abf5_0 a0 m := rfl
noncomputable def GJ0_length_8abf5 : qG Int32 := fun av m => match av with
  | [.ref a0] => bif qtx a0 then fJ0_length_8abf5 a0 m else none
  | _ => none
theorem spJ0_length_8abf5 : qSpI yJ0_length_8abf5 (.code yJ0_length_8abf5 cJ0_length_8abf5 1 (some .int)) 1 qfin 155 155 1 GJ0_length_8abf5 := by
  intro av m x m' hG
  unfold GJ0_length_8abf5 at hG
  split at hG
  · rename_i a0
    obtain ⟨hr, hG⟩ := qbt hG
    rw [fJ0_length_8abf5_d] at hG
    exact ⟨qmeet (J := jI) (r := (x, m')) (av := [.ref a0]) (by decide +kernel) (Nat.le_of_ble_eq_true rfl) (fun C w h hm hx hn => sJ0_length_8abf5_0 h hm hx) ((lJ0_length_8abf5_0 _ _).trans hG) (Nat.le_of_ble_eq_true rfl), qRc_txt hr rfl⟩
  · cases hG
theorem dJ0_isLatin1_aae02_0 : decode cJ0_isLatin1_aae02 0 = .ok (.getstatic 38, 3) := by decide +kernel
theorem dJ0_isLatin1_aae02_3 : decode cJ0_isLatin1_aae02 3 = .ok (.ifCond .eq 14, 3) := by decide +kernel
theorem dJ0_isLatin1_aae02_6 : decode cJ0_isLatin1_aae02 6 = .ok (.aload_n 0, 1) := by decide +kernel
theorem dJ0_isLatin1_aae02_7 : decode cJ0_isLatin1_aae02 7 = .ok (.getfield 15, 3) := by decide +kernel
theorem dJ0_isLatin1_aae02_10 : decode cJ0_isLatin1_aae02 10 = .ok (.ifCond .ne 7, 3) := by decide +kernel
theorem dJ0_isLatin1_aae02_13 : decode cJ0_isLatin1_aae02 13 = .ok (.iconst 1, 1) := by decide +kernel
theorem dJ0_isLatin1_aae02_14 : decode cJ0_isLatin1_aae02 14 = .ok (.goto 4, 3) := by decide +kernel
theorem dJ0_isLatin1_aae02_17 : decode cJ0_isLatin1_aae02 17 = .ok (.iconst 0, 1) := by decide +kernel
theorem dJ0_isLatin1_aae02_18 : decode cJ0_isLatin1_aae02 18 = .ok (.ireturn, 1) := by decide +kernel
noncomputable def tJ0_isLatin1_aae02_8 : qT (Int32 × qM) :=
  eZ
noncomputable def wJ0_isLatin1_aae02_8 (k : Int32 → qM → Option (Int32 × qM)) : qT (Int32 × qM) := fun lo st m => match lo, st with
  | [_], [.int s0] => k s0 m
  | _, _ => none
set_option maxRecDepth 20000 in
theorem sJ0_isLatin1_aae02_8 {C : qCx} {w : qWp} (h : qOk C w RJ0 cJ0_isLatin1_aae02 1 0 155 155) (hm : qMt C (some .boolean)) (hx : qNx C) : qSnd C w 1 155 (qQf C w 155 155 jI) qfin 155 18 (tJ0_isLatin1_aae02_8) :=
  zZ (pc := 18) h hm (Nat.le_refl _) dJ0_isLatin1_aae02_18
set_option maxRecDepth 20000 in
theorem lJ0_isLatin1_aae02_8 (s0 : Int32) (m : qM) : tJ0_isLatin1_aae02_8 [none] [(.int s0)] m = fJ0_isLatin1_aae02_8 s0 m := rfl
theorem bJ0_isLatin1_aae02_8 {C : qCx} {w : qWp} (h : qOk C w RJ0 cJ0_isLatin1_aae02 1 0 155 155) (hm : qMt C (some .boolean)) (hx : qNx C) : qSnd C w 1 155 (qQf C w 155 155 jI) qfin 155 18 (wJ0_isLatin1_aae02_8 fJ0_isLatin1_aae02_8) :=
  qSnd_of (fun lo st m x hr0 => by
    unfold wJ0_isLatin1_aae02_8 at hr0
    split at hr0
    · exact ⟨_, (qsub_n qsub_nil), (lJ0_isLatin1_aae02_8 _ _).trans hr0⟩
    · cases hr0) (sJ0_isLatin1_aae02_8 h hm hx)
noncomputable def tJ0_isLatin1_aae02_7 (j8 : qT (Int32 × qM)) : qT (Int32 × qM) :=
  oC (.int (0 : Int32)) (j8)
noncomputable def wJ0_isLatin1_aae02_7 (k : qM → Option (Int32 × qM)) : qT (Int32 × qM) := fun lo st m => match lo, st with
  | [_], [] => k m
  | _, _ => none
set_option maxRecDepth 20000 in
theorem sJ0_isLatin1_aae02_7 {C : qCx} {w : qWp} (h : qOk C w RJ0 cJ0_isLatin1_aae02 1 0 155 155) (hm : qMt C (some .boolean)) (hx : qNx C) {j8 : qT (Int32 × qM)} (k8 : qSnd C w 1 155 (qQf C w 155 155 jI) qfin 155 18 j8) : qSnd C w 1 155 (qQf C w 155 155 jI) qfin 155 17 (tJ0_isLatin1_aae02_7 j8) :=
  cC (pc := 17) h dJ0_isLatin1_aae02_17 rfl (k8)
set_option maxRecDepth 20000 in
theorem lJ0_isLatin1_aae02_7 (m : qM) : tJ0_isLatin1_aae02_7 (wJ0_isLatin1_aae02_8 fJ0_isLatin1_aae02_8) [none] [] m = fJ0_isLatin1_aae02_7 m := rfl
theorem bJ0_isLatin1_aae02_7 {C : qCx} {w : qWp} (h : qOk C w RJ0 cJ0_isLatin1_aae02 1 0 155 155) (hm : qMt C (some .boolean)) (hx : qNx C) : qSnd C w 1 155 (qQf C w 155 155 jI) qfin 155 17 (wJ0_isLatin1_aae02_7 fJ0_isLatin1_aae02_7) :=
  qSnd_of (fun lo st m x hr0 => by
    unfold wJ0_isLatin1_aae02_7 at hr0
    split at hr0
    · exact ⟨_, (qsub_n qsub_nil), (lJ0_isLatin1_aae02_7 _).trans hr0⟩
    · cases hr0) (sJ0_isLatin1_aae02_7 h hm hx (bJ0_isLatin1_aae02_8 h hm hx))
noncomputable def tJ0_isLatin1_aae02_0 (j7 : qT (Int32 × qM)) (j8 : qT (Int32 × qM)) : qT (Int32 × qM) :=
  oC (.int (1 : Int32)) (oEq (j7) (oLa 0 (oSk (oEq (oC (.int (1 : Int32)) (j8)) (j7)))))
set_option maxRecDepth 20000 in
theorem sJ0_isLatin1_aae02_0 {C : qCx} {w : qWp} (h : qOk C w RJ0 cJ0_isLatin1_aae02 1 0 155 155) (hm : qMt C (some .boolean)) (hx : qNx C) {j7 : qT (Int32 × qM)} {j8 : qT (Int32 × qM)} (k7 : qSnd C w 1 155 (qQf C w 155 155 jI) qfin 155 17 j7) (k8 : qSnd C w 1 155 (qQf C w 155 155 jI) qfin 155 18 j8) : qSnd C w 1 155 (qQf C w 155 155 jI) qfin 155 0 (tJ0_isLatin1_aae02_0 j7 j8) :=
  tCs (pc := 0) h dJ0_isLatin1_aae02_0 fz_J0_38 (jEq (pc := 3) h dJ0_isLatin1_aae02_3 rfl (k7) (cLa (pc := 6) h dJ0_isLatin1_aae02_6 rfl (tSk (pc := 7) h dJ0_isLatin1_aae02_7 fv_J0_15 (jNe (pc := 10) h dJ0_isLatin1_aae02_10 rfl (k7) (cC (pc := 13) h dJ0_isLatin1_aae02_13 rfl (jGo (pc := 14) h dJ0_isLatin1_aae02_14 rfl (k8)))))))
set_option maxRecDepth 20000 in
theorem lJ0_isLatin1_aae02_0 (a0 : Nat) (m : qM) : tJ0_isLatin1_aae02_0 (wJ0_isLatin1_aae02_7 fJ0_isLatin1_aae02_7) (wJ0_isLatin1_aae02_8 fJ0_isLatin1_aae02_8) [some (.ref a0)] [] m = fJ0_isLatin1_aae02_0 a0 m := rfl
noncomputable def GJ0_isLatin1_aae02 : qG Int32 := fun av m => match av with
  | [.ref a0] => bif qtx a0 then fJ0_isLatin1_aae02 a0 m else none
  | _ => none
theorem spJ0_isLatin1_aae02 : qSpI yJ0_isLatin1_aae02 (.code yJ0_isLatin1_aae02 cJ0_isLatin1_aae02 1 (some .boolean)) 0 qfin 155 155 1 GJ0_isLatin1_aae02 := by
  intro av m x m' hG
  unfold GJ0_isLatin1_aae02 at hG
  split at hG
  · rename_i a0
    obtain ⟨hr, hG⟩ := qbt hG
    rw [fJ0_isLatin1_aae02_d] at hG
    exact ⟨qmeet (J := jI) (r := (x, m')) (av := [.ref a0]) (by decide +kernel) (Nat.le_of_ble_eq_true rfl) (fun C w h hm hx hn => sJ0_isLatin1_aae02_0 h hm hx (bJ0_isLatin1_aae02_7 h hm hx) (bJ0_isLatin1_aae02_8 h hm hx)) ((lJ0_isLatin1_aae02_0 _ _).trans hG) (Nat.le_of_ble_eq_true rfl), qRc_txt hr rfl⟩
  · cases hG
theorem dJ3_checkIndex_8e157_0 : decode cJ3_checkIndex_8e157 0 = .ok (.iload_n 0, 1) := by decide +kernel
theorem dJ3_checkIndex_8e157_1 : decode cJ3_checkIndex_8e157 1 = .ok (.ifCond .lt 8, 3) := by decide +kernel
theorem dJ3_checkIndex_8e157_4 : decode cJ3_checkIndex_8e157 4 = .ok (.iload_n 0, 1) := by decide +kernel
theorem dJ3_checkIndex_8e157_5 : decode cJ3_checkIndex_8e157 5 = .ok (.iload_n 1, 1) := by decide +kernel
theorem dJ3_checkIndex_8e157_6 : decode cJ3_checkIndex_8e157 6 = .ok (.if_icmp .lt 10, 3) := by decide +kernel
theorem dJ3_checkIndex_8e157_9 : decode cJ3_checkIndex_8e157 9 = .ok (.aload_n 2, 1) := by decide +kernel
theorem dJ3_checkIndex_8e157_10 : decode cJ3_checkIndex_8e157 10 = .ok (.iload_n 0, 1) := by decide +kernel
theorem dJ3_checkIndex_8e157_11 : decode cJ3_checkIndex_8e157 11 = .ok (.iload_n 1, 1) := by decide +kernel
theorem dJ3_checkIndex_8e157_16 : decode cJ3_checkIndex_8e157 16 = .ok (.iload_n 0, 1) := by decide +kernel
theorem dJ3_checkIndex_8e157_17 : decode cJ3_checkIndex_8e157 17 = .ok (.ireturn, 1) := by decide +kernel
noncomputable def tJ3_checkIndex_8e157_5 : qT (Int32 × qM) :=
  oLa 2 (oLi 0 (oLi 1 (fun _ _ _ => none)))
noncomputable def wJ3_checkIndex_8e157_5 (k : Int32 → Int32 → qM → Option (Int32 × qM)) : qT (Int32 × qM) := fun lo st m => match lo, st with
  | [some (.int a0), some (.int a1), some (.ref 10012)], [] => k a0 a1 m
  | _, _ => none
set_option maxRecDepth 20000 in
theorem sJ3_checkIndex_8e157_5 {C : qCx} {w : qWp} (h : qOk C w RJ3 cJ3_checkIndex_8e157 3 0 155 155) (hm : qMt C (some .int)) (hx : qNx C) : qSnd C w 3 155 (qQf C w 155 155 jI) qfin 155 9 (tJ3_checkIndex_8e157_5) :=
  cLa (pc := 9) h dJ3_checkIndex_8e157_9 rfl (cLi (pc := 10) h dJ3_checkIndex_8e157_10 rfl (cLi (pc := 11) h dJ3_checkIndex_8e157_11 rfl (qSnd_no)))
set_option maxRecDepth 20000 in
theorem lJ3_checkIndex_8e157_5 (a0 : Int32) (a1 : Int32) (m : qM) : tJ3_checkIndex_8e157_5 [some (.int a0), some (.int a1), some (.ref 10012)] [] m = fJ3_checkIndex_8e157_5 a0 a1 m := rfl
theorem bJ3_checkIndex_8e157_5 {C : qCx} {w : qWp} (h : qOk C w RJ3 cJ3_checkIndex_8e157 3 0 155 155) (hm : qMt C (some .int)) (hx : qNx C) : qSnd C w 3 155 (qQf C w 155 155 jI) qfin 155 9 (wJ3_checkIndex_8e157_5 fJ3_checkIndex_8e157_5) :=
  qSnd_of (fun lo st m x hr0 => by
    unfold wJ3_checkIndex_8e157_5 at hr0
    split at hr0
    · exact ⟨_, (qsub_e (qsub_e (qsub_e qsub_nil))), (lJ3_checkIndex_8e157_5 _ _ _).trans hr0⟩
    · cases hr0) (sJ3_checkIndex_8e157_5 h hm hx)
noncomputable def tJ3_checkIndex_8e157_0 (j5 : qT (Int32 × qM)) : qT (Int32 × qM) :=
  oLi 0 (oLt (j5) (oLi 0 (oLi 1 (oCLt (oLi 0 (eI)) (j5)))))
set_option maxRecDepth 20000 in
theorem sJ3_checkIndex_8e157_0 {C : qCx} {w : qWp} (h : qOk C w RJ3 cJ3_checkIndex_8e157 3 0 155 155) (hm : qMt C (some .int)) (hx : qNx C) {j5 : qT (Int32 × qM)} (k5 : qSnd C w 3 155 (qQf C w 155 155 jI) qfin 155 9 j5) : qSnd C w 3 155 (qQf C w 155 155 jI) qfin 155 0 (tJ3_checkIndex_8e157_0 j5) :=
  cLi (pc := 0) h dJ3_checkIndex_8e157_0 rfl (jLt (pc := 1) h dJ3_checkIndex_8e157_1 rfl (k5) (cLi (pc := 4) h dJ3_checkIndex_8e157_4 rfl (cLi (pc := 5) h dJ3_checkIndex_8e157_5 rfl (jCLt (pc := 6) h dJ3_checkIndex_8e157_6 rfl (cLi (pc := 16) h dJ3_checkIndex_8e157_16 rfl (zI (pc := 17) h hm (Nat.le_refl _) dJ3_checkIndex_8e157_17)) (k5)))))
set_option maxRecDepth 20000 in
theorem lJ3_checkIndex_8e157_0 (a0 : Int32) (a1 : Int32) (m : qM) : tJ3_checkIndex_8e157_0 (wJ3_checkIndex_8e157_5 fJ3_checkIndex_8e157_5) [some (.int a0), some (.int a1), some (.ref 10012)] [] m = fJ3_checkIndex_8e157_0 a0 a1 m := rfl
noncomputable def GJ3_checkIndex_8e157 : qG Int32 := fun av m => match av with
  | [.int a0, .int a1, .ref 10012] => fJ3_checkIndex_8e157 a0 a1 m
  | _ => none
theorem spJ3_checkIndex_8e157 : qSpI yJ3_checkIndex_8e157 (.code yJ3_checkIndex_8e157 cJ3_checkIndex_8e157 3 (some .int)) 0 qfin 155 155 0 GJ3_checkIndex_8e157 := by
  intro av m x m' hG
  unfold GJ3_checkIndex_8e157 at hG
  split at hG
  · rename_i a0 a1
    rw [fJ3_checkIndex_8e157_d] at hG
    exact ⟨qmeet (J := jI) (r := (x, m')) (av := [.int a0, .int a1, .ref 10012]) (by decide +kernel) (Nat.le_of_ble_eq_true rfl) (fun C w h hm hx hn => sJ3_checkIndex_8e157_0 h hm hx (bJ3_checkIndex_8e157_5 h hm hx)) ((lJ3_checkIndex_8e157_0 _ _ _).trans hG) (Nat.le_of_ble_eq_true rfl), trivial⟩
  · cases hG
theorem mfz_J0_1053 : Jvm.Cond.fieldLink RJ0 1053 "jdk/internal/util/Preconditions" "SIOOBE_FORMATTER" "Ljava/util/function/BiFunction;" ∈ qTw := qm3 (List.mem_of_getElem? (i := 62) (by decide +kernel)) (by decide +kernel)
theorem fz_J0_1053 {ρ : Type} {C : qCx} {w : qWp} {cc : ByteArray} {nL dp n0 n1 pc n : Nat} {Qf : ρ → State → Prop} {fin : Nat → Nat → Option Nat} {t : qT ρ} (h : qOk C w RJ0 cc nL dp n0 n1) (d : decode cc pc = .ok (.getstatic 1053, 3)) (k : qSnd C w nL n0 Qf fin n (pc + 3) t) : qSnd C w nL n0 Qf fin n pc (oC (.ref 10012) t) := cGs h d mfz_J0_1053 (qOk_G h).2.2.2.2.2.2.2.2.2.2.2.1 k
theorem im_J3_checkIndex_8e157 : Jvm.Cond.static yJ3_checkIndex_8e157 ∈ qTw := qm3 (List.mem_of_getElem? (i := 65) (by decide +kernel)) (by decide +kernel)
theorem in_jdk_internal_util_Preconditions : Jvm.Cond.initialized "jdk/internal/util/Preconditions" ∈ qTw := qm1 (List.mem_of_getElem? (i := 21) (by decide +kernel)) (by decide +kernel)
theorem co_J3_checkIndex_8e157 : Jvm.Cond.code yJ3_checkIndex_8e157 cJ3_checkIndex_8e157 3 (some .int) ∈ qTw := qm3 (List.mem_of_getElem? (i := 66) (by decide +kernel)) (by decide +kernel)
theorem yk_J3_checkIndex_8e157 : qYk yJ3_checkIndex_8e157 3 := ⟨⟨by decide +kernel, by decide +kernel⟩, by decide +kernel⟩
theorem ml_J0_1059 : Jvm.Cond.methodLink RJ0 1059 yJ3_checkIndex_8e157 ∈ qTw := qm3 (List.mem_of_getElem? (i := 64) (by decide +kernel)) (by decide +kernel)
theorem kd_J0_1059 {C : qCx} {w : qWp} {cc : ByteArray} {nL dp n0 n1 pc : Nat} (h : qOk C w RJ0 cc nL dp n0 n1) (d : decode cc pc = .ok (.invokestatic 1059, 3)) : qCallOk C w nL dp n0 n1 pc 3 0 yJ3_checkIndex_8e157 (.code yJ3_checkIndex_8e157 cJ3_checkIndex_8e157 3 (some .int)) := kindS h d ml_J0_1059 im_J3_checkIndex_8e157 in_jdk_internal_util_Preconditions co_J3_checkIndex_8e157 yk_J3_checkIndex_8e157 (by decide)
theorem dJ0_checkIndex_df160_0 : decode cJ0_checkIndex_df160 0 = .ok (.iload_n 0, 1) := by decide +kernel
theorem dJ0_checkIndex_df160_1 : decode cJ0_checkIndex_df160 1 = .ok (.iload_n 1, 1) := by decide +kernel
theorem dJ0_checkIndex_df160_2 : decode cJ0_checkIndex_df160 2 = .ok (.getstatic 1053, 3) := by decide +kernel
theorem dJ0_checkIndex_df160_5 : decode cJ0_checkIndex_df160 5 = .ok (.invokestatic 1059, 3) := by decide +kernel
theorem dJ0_checkIndex_df160_8 : decode cJ0_checkIndex_df160 8 = .ok (.pop, 1) := by decide +kernel
theorem dJ0_checkIndex_df160_9 : decode cJ0_checkIndex_df160 9 = .ok (.return_, 1) := by decide +kernel
noncomputable def tJ0_checkIndex_df160_0 : qT (Unit × qM) :=
  oLi 0 (oLi 1 (oC (.ref 10012) (oCi GJ3_checkIndex_8e157 3 (oPop (eV)))))
set_option maxRecDepth 20000 in
theorem sJ0_checkIndex_df160_0 {C : qCx} {w : qWp} (h : qOk C w RJ0 cJ0_checkIndex_df160 2 1 155 155) (hm : qMt C none) (hx : qNx C) : qSnd C w 2 155 (qQf C w 155 155 jV) qfin 155 0 (tJ0_checkIndex_df160_0) :=
  cLi (pc := 0) h dJ0_checkIndex_df160_0 rfl (cLi (pc := 1) h dJ0_checkIndex_df160_1 rfl (fz_J0_1053 (pc := 2) h dJ0_checkIndex_df160_2 (kCi (pc := 5) h (kd_J0_1059 h dJ0_checkIndex_df160_5) spJ3_checkIndex_8e157 (by decide) (by decide) (by decide) (by decide) (aPop (pc := 8) h dJ0_checkIndex_df160_8 (zV (pc := 9) h hm (Nat.le_refl _) dJ0_checkIndex_df160_9)))))
set_option maxRecDepth 20000 in
theorem lJ0_checkIndex_df160_0 (a0 : Int32) (a1 : Int32) (m : qM) : tJ0_checkIndex_df160_0 [some (.int a0), some (.int a1)] [] m = fJ0_checkIndex_df160_0 a0 a1 m := rfl
noncomputable def GJ0_checkIndex_df160 : qG Unit := fun av m => match av with
  | [.int a0, .int a1] => fJ0_checkIndex_df160 a0 a1 m
  | _ => none
theorem spJ0_checkIndex_df160 : qSpV yJ0_checkIndex_df160 (.code yJ0_checkIndex_df160 cJ0_checkIndex_df160 2 none) 1 qfin 155 155 0 GJ0_checkIndex_df160 := by
  intro av m m' hG
  unfold GJ0_checkIndex_df160 at hG
  split at hG
  · rename_i a0 a1
    rw [fJ0_checkIndex_df160_d] at hG
    exact ⟨qmeet (J := jV) (r := ((), m')) (av := [.int a0, .int a1]) (by decide +kernel) (Nat.le_of_ble_eq_true rfl) (fun C w h hm hx hn => sJ0_checkIndex_df160_0 h hm hx) ((lJ0_checkIndex_df160_0 _ _ _).trans hG) (Nat.le_of_ble_eq_true rfl), trivial⟩
  · cases hG
theorem im_J0_checkIndex_df160 : Jvm.Cond.static yJ0_checkIndex_df160 ∈ qTw := qm3 (List.mem_of_getElem? (i := 60) (by decide +kernel)) (by decide +kernel)
theorem co_J0_checkIndex_df160 : Jvm.Cond.code yJ0_checkIndex_df160 cJ0_checkIndex_df160 2 none ∈ qTw := qm3 (List.mem_of_getElem? (i := 61) (by decide +kernel)) (by decide +kernel)
theorem yk_J0_checkIndex_df160 : qYk yJ0_checkIndex_df160 2 := ⟨⟨by decide +kernel, by decide +kernel⟩, by decide +kernel⟩
theorem ml_J1_9 : Jvm.Cond.methodLink RJ1 9 yJ0_checkIndex_df160 ∈ qTw := qm3 (List.mem_of_getElem? (i := 59) (by decide +kernel)) (by decide +kernel)
theorem kd_J1_9 {C : qCx} {w : qWp} {cc : ByteArray} {nL dp n0 n1 pc : Nat} (h : qOk C w RJ1 cc nL dp n0 n1) (d : decode cc pc = .ok (.invokestatic 9, 3)) : qCallOk C w nL dp n0 n1 pc 2 0 yJ0_checkIndex_df160 (.code yJ0_checkIndex_df160 cJ0_checkIndex_df160 2 none) := kindS h d ml_J1_9 im_J0_checkIndex_df160 in_java_lang_String co_J0_checkIndex_df160 yk_J0_checkIndex_df160 (by decide)
theorem dJ1_charAt_3b067_0 : decode cJ1_charAt_3b067 0 = .ok (.iload_n 1, 1) := by decide +kernel
theorem dJ1_charAt_3b067_1 : decode cJ1_charAt_3b067 1 = .ok (.aload_n 0, 1) := by decide +kernel
theorem dJ1_charAt_3b067_2 : decode cJ1_charAt_3b067 2 = .ok (.arraylength, 1) := by decide +kernel
theorem dJ1_charAt_3b067_3 : decode cJ1_charAt_3b067 3 = .ok (.invokestatic 9, 3) := by decide +kernel
theorem dJ1_charAt_3b067_6 : decode cJ1_charAt_3b067 6 = .ok (.aload_n 0, 1) := by decide +kernel
theorem dJ1_charAt_3b067_7 : decode cJ1_charAt_3b067 7 = .ok (.iload_n 1, 1) := by decide +kernel
theorem dJ1_charAt_3b067_8 : decode cJ1_charAt_3b067 8 = .ok (.baload, 1) := by decide +kernel
theorem dJ1_charAt_3b067_9 : decode cJ1_charAt_3b067 9 = .ok (.sipush 255, 3) := by decide +kernel
theorem dJ1_charAt_3b067_12 : decode cJ1_charAt_3b067 12 = .ok (.iand, 1) := by decide +kernel
theorem dJ1_charAt_3b067_13 : decode cJ1_charAt_3b067 13 = .ok (.i2c, 1) := by decide +kernel
theorem dJ1_charAt_3b067_14 : decode cJ1_charAt_3b067 14 = .ok (.ireturn, 1) := by decide +kernel
noncomputable def tJ1_charAt_3b067_0 : qT (Int32 × qM) :=
  oLi 1 (oLa 0 (oTl (oCv GJ0_checkIndex_df160 2 (oLa 0 (oLi 1 (oTb (oC (.int (255 : Int32)) (o2 (· &&& ·) (o1 (fun x => (x.toUInt32 % 65536).toInt32) (eS))))))))))
set_option maxRecDepth 20000 in
theorem sJ1_charAt_3b067_0 {C : qCx} {w : qWp} (h : qOk C w RJ1 cJ1_charAt_3b067 2 2 155 155) (hm : qMt C (some .char)) (hx : qNx C) : qSnd C w 2 155 (qQf C w 155 155 jI) qfin 155 0 (tJ1_charAt_3b067_0) :=
  cLi (pc := 0) h dJ1_charAt_3b067_0 rfl (cLa (pc := 1) h dJ1_charAt_3b067_1 rfl (tTl (pc := 2) h dJ1_charAt_3b067_2 (kCv (pc := 3) h (kd_J1_9 h dJ1_charAt_3b067_3) spJ0_checkIndex_df160 (by decide) (by decide) (by decide) (by decide) (cLa (pc := 6) h dJ1_charAt_3b067_6 rfl (cLi (pc := 7) h dJ1_charAt_3b067_7 rfl (tTb (pc := 8) h dJ1_charAt_3b067_8 (cS (pc := 9) h dJ1_charAt_3b067_9 rfl (aAnd (pc := 12) h dJ1_charAt_3b067_12 (aI2c (pc := 13) h dJ1_charAt_3b067_13 (zS (pc := 14) (Or.inr rfl) h hm (Nat.le_refl _) dJ1_charAt_3b067_14))))))))))
set_option maxRecDepth 20000 in
theorem lJ1_charAt_3b067_0 (a0 : Nat) (a1 : Int32) (m : qM) : tJ1_charAt_3b067_0 [some (.ref a0), some (.int a1)] [] m = fJ1_charAt_3b067_0 a0 a1 m := rfl
noncomputable def GJ1_charAt_3b067 : qG Int32 := fun av m => match av with
  | [.ref a0, .int a1] => fJ1_charAt_3b067 a0 a1 m
  | _ => none
theorem spJ1_charAt_3b067 : qSpI yJ1_charAt_3b067 (.code yJ1_charAt_3b067 cJ1_charAt_3b067 2 (some .char)) 2 qfin 155 155 0 GJ1_charAt_3b067 := by
  intro av m x m' hG
  unfold GJ1_charAt_3b067 at hG
  split at hG
  · rename_i a0 a1
    rw [fJ1_charAt_3b067_d] at hG
    exact ⟨qmeet (J := jI) (r := (x, m')) (av := [.ref a0, .int a1]) (by decide +kernel) (Nat.le_of_ble_eq_true rfl) (fun C w h hm hx hn => sJ1_charAt_3b067_0 h hm hx) ((lJ1_charAt_3b067_0 _ _ _).trans hG) (Nat.le_of_ble_eq_true rfl), trivial⟩
  · cases hG
theorem im_J0_isLatin1_aae02 : Jvm.Cond.instanceMethod yJ0_isLatin1_aae02 ∈ qTw := qm3 (List.mem_of_getElem? (i := 53) (by decide +kernel)) (by decide +kernel)
theorem se_J0_isLatin1_aae02 : Jvm.Cond.selects yJ0_isLatin1_aae02.cls yJ0_isLatin1_aae02 yJ0_isLatin1_aae02 ∈ qTw := qm3 (List.mem_of_getElem? (i := 54) (by decide +kernel)) (by decide +kernel)
theorem co_J0_isLatin1_aae02 : Jvm.Cond.code yJ0_isLatin1_aae02 cJ0_isLatin1_aae02 1 (some .boolean) ∈ qTw := qm3 (List.mem_of_getElem? (i := 55) (by decide +kernel)) (by decide +kernel)
theorem yk_J0_isLatin1_aae02 : qYk yJ0_isLatin1_aae02 0 := ⟨⟨by decide +kernel, by decide +kernel⟩, by decide +kernel⟩
theorem ml_J0_492 : Jvm.Cond.methodLink RJ0 492 yJ0_isLatin1_aae02 ∈ qTw := qm3 (List.mem_of_getElem? (i := 52) (by decide +kernel)) (by decide +kernel)
theorem kd_J0_492 {C : qCx} {w : qWp} {cc : ByteArray} {nL dp n0 n1 pc : Nat} (h : qOk C w RJ0 cc nL dp n0 n1) (d : decode cc pc = .ok (.invokevirtual 492, 3)) : qCallOk C w nL dp n0 n1 pc 1 1 yJ0_isLatin1_aae02 (.code yJ0_isLatin1_aae02 cJ0_isLatin1_aae02 1 (some .boolean)) := kindV h d ml_J0_492 im_J0_isLatin1_aae02 se_J0_isLatin1_aae02 in_java_lang_String co_J0_isLatin1_aae02 yk_J0_isLatin1_aae02 (by decide)
theorem im_J1_charAt_3b067 : Jvm.Cond.static yJ1_charAt_3b067 ∈ qTw := qm3 (List.mem_of_getElem? (i := 57) (by decide +kernel)) (by decide +kernel)
theorem in_java_lang_StringLatin1 : Jvm.Cond.initialized "java/lang/StringLatin1" ∈ qTw := qm1 (List.mem_of_getElem? (i := 20) (by decide +kernel)) (by decide +kernel)
theorem co_J1_charAt_3b067 : Jvm.Cond.code yJ1_charAt_3b067 cJ1_charAt_3b067 2 (some .char) ∈ qTw := qm3 (List.mem_of_getElem? (i := 58) (by decide +kernel)) (by decide +kernel)
theorem yk_J1_charAt_3b067 : qYk yJ1_charAt_3b067 2 := ⟨⟨by decide +kernel, by decide +kernel⟩, by decide +kernel⟩
theorem ml_J0_495 : Jvm.Cond.methodLink RJ0 495 yJ1_charAt_3b067 ∈ qTw := qm3 (List.mem_of_getElem? (i := 56) (by decide +kernel)) (by decide +kernel)
theorem kd_J0_495 {C : qCx} {w : qWp} {cc : ByteArray} {nL dp n0 n1 pc : Nat} (h : qOk C w RJ0 cc nL dp n0 n1) (d : decode cc pc = .ok (.invokestatic 495, 3)) : qCallOk C w nL dp n0 n1 pc 2 0 yJ1_charAt_3b067 (.code yJ1_charAt_3b067 cJ1_charAt_3b067 2 (some .char)) := kindS h d ml_J0_495 im_J1_charAt_3b067 in_java_lang_StringLatin1 co_J1_charAt_3b067 yk_J1_charAt_3b067 (by decide)
theorem dJ0_charAt_5068e_0 : decode cJ0_charAt_5068e 0 = .ok (.aload_n 0, 1) := by decide +kernel
theorem dJ0_charAt_5068e_1 : decode cJ0_charAt_5068e 1 = .ok (.invokevirtual 492, 3) := by decide +kernel
theorem dJ0_charAt_5068e_4 : decode cJ0_charAt_5068e 4 = .ok (.ifCond .eq 12, 3) := by decide +kernel
theorem dJ0_charAt_5068e_7 : decode cJ0_charAt_5068e 7 = .ok (.aload_n 0, 1) := by decide +kernel
theorem dJ0_charAt_5068e_8 : decode cJ0_charAt_5068e 8 = .ok (.getfield 9, 3) := by decide +kernel
theorem dJ0_charAt_5068e_11 : decode cJ0_charAt_5068e 11 = .ok (.iload_n 1, 1) := by decide +kernel
theorem dJ0_charAt_5068e_12 : decode cJ0_charAt_5068e 12 = .ok (.invokestatic 495, 3) := by decide +kernel
theorem dJ0_charAt_5068e_15 : decode cJ0_charAt_5068e 15 = .ok (.ireturn, 1) := by decide +kernel
theorem dJ0_charAt_5068e_16 : decode cJ0_charAt_5068e 16 = .ok (.aload_n 0, 1) := by decide +kernel
theorem dJ0_charAt_5068e_17 : decode cJ0_charAt_5068e 17 = .ok (.getfield 9, 3) := by decide +kernel
theorem dJ0_charAt_5068e_20 : decode cJ0_charAt_5068e 20 = .ok (.iload_n 1, 1) := by decide +kernel
noncomputable def tJ0_charAt_5068e_0 : qT (Int32 × qM) :=
  oLa 0 (oCi GJ0_isLatin1_aae02 1 (oEq (oLa 0 (oSv (oLi 1 (fun _ _ _ => none)))) (oLa 0 (oSv (oLi 1 (oCi GJ1_charAt_3b067 2 (eS)))))))
set_option maxRecDepth 20000 in
theorem sJ0_charAt_5068e_0 {C : qCx} {w : qWp} (h : qOk C w RJ0 cJ0_charAt_5068e 2 3 155 155) (hm : qMt C (some .char)) (hx : qNx C) : qSnd C w 2 155 (qQf C w 155 155 jI) qfin 155 0 (tJ0_charAt_5068e_0) :=
  cLa (pc := 0) h dJ0_charAt_5068e_0 rfl (kCi (pc := 1) h (kd_J0_492 h dJ0_charAt_5068e_1) spJ0_isLatin1_aae02 (by decide) (by decide) (by decide) (by decide) (jEq (pc := 4) h dJ0_charAt_5068e_4 rfl (cLa (pc := 16) h dJ0_charAt_5068e_16 rfl (tSv (pc := 17) h dJ0_charAt_5068e_17 fv_J0_9 (cLi (pc := 20) h dJ0_charAt_5068e_20 rfl (qSnd_no)))) (cLa (pc := 7) h dJ0_charAt_5068e_7 rfl (tSv (pc := 8) h dJ0_charAt_5068e_8 fv_J0_9 (cLi (pc := 11) h dJ0_charAt_5068e_11 rfl (kCi (pc := 12) h (kd_J0_495 h dJ0_charAt_5068e_12) spJ1_charAt_3b067 (by decide) (by decide) (by decide) (by decide) (zS (pc := 15) (Or.inr rfl) h hm (Nat.le_refl _) dJ0_charAt_5068e_15)))))))
set_option maxRecDepth 20000 in
theorem lJ0_charAt_5068e_0 (a0 : Nat) (a1 : Int32) (m : qM) : tJ0_charAt_5068e_0 [some (.ref a0), some (.int a1)] [] m = fJ0_charAt_5068e_0 a0 a1 m := rfl
noncomputable def GJ0_charAt_5068e : qG Int32 := fun av m => match av with
  | [.ref a0, .int a1] => bif qtx a0 then fJ0_charAt_5068e a0 a1 m else none
  | _ => none
theorem spJ0_charAt_5068e : qSpI yJ0_charAt_5068e (.code yJ0_charAt_5068e cJ0_charAt_5068e 2 (some .char)) 3 qfin 155 155 1 GJ0_charAt_5068e := by
  intro av m x m' hG
  unfold GJ0_charAt_5068e at hG
  split at hG
  · rename_i a0 a1
    obtain ⟨hr, hG⟩ := qbt hG
    rw [fJ0_charAt_5068e_d] at hG
    exact ⟨qmeet (J := jI) (r := (x, m')) (av := [.ref a0, .int a1]) (by decide +kernel) (Nat.le_of_ble_eq_true rfl) (fun C w h hm hx hn => sJ0_charAt_5068e_0 h hm hx) ((lJ0_charAt_5068e_0 _ _ _).trans hG) (Nat.le_of_ble_eq_true rfl), qRc_txt hr rfl⟩
  · cases hG
theorem dX4_laid_0 : decode cX4_laid 0 = .ok (.aload_n 0, 1) := by decide +kernel
theorem dX4_laid_1 : decode cX4_laid 1 = .ok (.getfield 47, 3) := by decide +kernel
theorem dX4_laid_4 : decode cX4_laid 4 = .ok (.ireturn, 1) := by decide +kernel
noncomputable def tX4_laid_0 : qT (Int32 × qM) :=
  oLa 0 (oGi 58 13 (eI))
set_option maxRecDepth 20000 in
theorem sX4_laid_0 {C : qCx} {w : qWp} (h : qOk C w RX4 cX4_laid 1 0 155 155) (hm : qMt C (some .int)) (hx : qNx C) : qSnd C w 1 155 (qQf C w 155 155 jI) qfin 155 0 (tX4_laid_0) :=
  cLa (pc := 0) h dX4_laid_0 rfl (gGi (pc := 1) h dX4_laid_1 ff_X4_47_58 (Nat.le_of_ble_eq_true rfl) (Nat.le_of_ble_eq_true rfl) (zI (pc := 4) h hm (Nat.le_refl _) dX4_laid_4))
set_option maxRecDepth 20000 in
theorem lX4_laid_0 (m : qM) : tX4_laid_0 [some (.ref 58)] [] m = fX4_laid_0 m := rfl
noncomputable def GX4_laid : qG Int32 := fun av m => match av with
  | [.ref 58] => fX4_laid m
  | _ => none
theorem spX4_laid : qSpI yX4_laid (.code yX4_laid cX4_laid 1 (some .int)) 0 qfin 155 155 1 GX4_laid := by
  intro av m x m' hG
  unfold GX4_laid at hG
  split at hG
  · rw [fX4_laid_d] at hG
    exact ⟨qmeet (J := jI) (r := (x, m')) (av := [.ref 58]) (by decide +kernel) (Nat.le_of_ble_eq_true rfl) (fun C w h hm hx hn => sX4_laid_0 h hm hx) ((lX4_laid_0 _).trans hG) (Nat.le_of_ble_eq_true rfl), Or.inl ⟨58, _, 4, _, _, rfl, by decide, rfl, qCk_4, rfl⟩⟩
  · cases hG
theorem dX4_asks_0 : decode cX4_asks 0 = .ok (.aload_n 0, 1) := by decide +kernel
theorem dX4_asks_1 : decode cX4_asks 1 = .ok (.getfield 40, 3) := by decide +kernel
theorem dX4_asks_4 : decode cX4_asks 4 = .ok (.ireturn, 1) := by decide +kernel
noncomputable def tX4_asks_0 : qT (Int32 × qM) :=
  oLa 0 (oGi 58 11 (eI))
set_option maxRecDepth 20000 in
theorem sX4_asks_0 {C : qCx} {w : qWp} (h : qOk C w RX4 cX4_asks 1 0 155 155) (hm : qMt C (some .int)) (hx : qNx C) : qSnd C w 1 155 (qQf C w 155 155 jI) qfin 155 0 (tX4_asks_0) :=
  cLa (pc := 0) h dX4_asks_0 rfl (gGi (pc := 1) h dX4_asks_1 ff_X4_40_58 (Nat.le_of_ble_eq_true rfl) (Nat.le_of_ble_eq_true rfl) (zI (pc := 4) h hm (Nat.le_refl _) dX4_asks_4))
set_option maxRecDepth 20000 in
theorem lX4_asks_0 (m : qM) : tX4_asks_0 [some (.ref 58)] [] m = fX4_asks_0 m := rfl
noncomputable def GX4_asks : qG Int32 := fun av m => match av with
  | [.ref 58] => fX4_asks m
  | _ => none
theorem spX4_asks : qSpI yX4_asks (.code yX4_asks cX4_asks 1 (some .int)) 0 qfin 155 155 1 GX4_asks := by
  intro av m x m' hG
  unfold GX4_asks at hG
  split at hG
  · rw [fX4_asks_d] at hG
    exact ⟨qmeet (J := jI) (r := (x, m')) (av := [.ref 58]) (by decide +kernel) (Nat.le_of_ble_eq_true rfl) (fun C w h hm hx hn => sX4_asks_0 h hm hx) ((lX4_asks_0 _).trans hG) (Nat.le_of_ble_eq_true rfl), Or.inl ⟨58, _, 4, _, _, rfl, by decide, rfl, qCk_4, rfl⟩⟩
  · cases hG
theorem dX4_isMust_0 : decode cX4_isMust 0 = .ok (.aload_n 0, 1) := by decide +kernel
theorem dX4_isMust_1 : decode cX4_isMust 1 = .ok (.getfield 18, 3) := by decide +kernel
theorem dX4_isMust_4 : decode cX4_isMust 4 = .ok (.iload_n 1, 1) := by decide +kernel
theorem dX4_isMust_5 : decode cX4_isMust 5 = .ok (.baload, 1) := by decide +kernel
theorem dX4_isMust_6 : decode cX4_isMust 6 = .ok (.ireturn, 1) := by decide +kernel
noncomputable def tX4_isMust_0 : qT (Int32 × qM) :=
  oLa 0 (oGf 58 4 61 (oLi 1 (oAi 61 40 (eZ))))
set_option maxRecDepth 20000 in
theorem sX4_isMust_0 {C : qCx} {w : qWp} (h : qOk C w RX4 cX4_isMust 2 0 155 155) (hm : qMt C (some .boolean)) (hx : qNx C) : qSnd C w 2 155 (qQf C w 155 155 jI) qfin 155 0 (tX4_isMust_0) :=
  cLa (pc := 0) h dX4_isMust_0 rfl (gGf (pc := 1) h dX4_isMust_1 ff_X4_18_58 (Nat.le_of_ble_eq_true rfl) (Nat.le_of_ble_eq_true rfl) rfl (cLi (pc := 4) h dX4_isMust_4 rfl (rAz (pc := 5) h dX4_isMust_5 rfl (Nat.le_of_ble_eq_true rfl) (Nat.le_of_ble_eq_true rfl) (zZ (pc := 6) h hm (Nat.le_refl _) dX4_isMust_6))))
set_option maxRecDepth 20000 in
theorem lX4_isMust_0 (a1 : Int32) (m : qM) : tX4_isMust_0 [some (.ref 58), some (.int a1)] [] m = fX4_isMust_0 a1 m := rfl
noncomputable def GX4_isMust : qG Int32 := fun av m => match av with
  | [.ref 58, .int a1] => fX4_isMust a1 m
  | _ => none
theorem spX4_isMust : qSpI yX4_isMust (.code yX4_isMust cX4_isMust 2 (some .boolean)) 0 qfin 155 155 1 GX4_isMust := by
  intro av m x m' hG
  unfold GX4_isMust at hG
  split at hG
  · rename_i a1
    rw [fX4_isMust_d] at hG
    exact ⟨qmeet (J := jI) (r := (x, m')) (av := [.ref 58, .int a1]) (by decide +kernel) (Nat.le_of_ble_eq_true rfl) (fun C w h hm hx hn => sX4_isMust_0 h hm hx) ((lX4_isMust_0 _ _).trans hG) (Nat.le_of_ble_eq_true rfl), Or.inl ⟨58, _, 4, _, _, rfl, by decide, rfl, qCk_4, rfl⟩⟩
  · cases hG
theorem dX4_familyOf_0 : decode cX4_familyOf 0 = .ok (.aload_n 0, 1) := by decide +kernel
theorem dX4_familyOf_1 : decode cX4_familyOf 1 = .ok (.getfield 9, 3) := by decide +kernel
theorem dX4_familyOf_4 : decode cX4_familyOf 4 = .ok (.iload_n 1, 1) := by decide +kernel
theorem dX4_familyOf_5 : decode cX4_familyOf 5 = .ok (.iaload, 1) := by decide +kernel
theorem dX4_familyOf_6 : decode cX4_familyOf 6 = .ok (.ireturn, 1) := by decide +kernel
noncomputable def tX4_familyOf_0 : qT (Int32 × qM) :=
  oLa 0 (oGf 58 2 59 (oLi 1 (oAi 59 40 (eI))))
set_option maxRecDepth 20000 in
theorem sX4_familyOf_0 {C : qCx} {w : qWp} (h : qOk C w RX4 cX4_familyOf 2 0 155 155) (hm : qMt C (some .int)) (hx : qNx C) : qSnd C w 2 155 (qQf C w 155 155 jI) qfin 155 0 (tX4_familyOf_0) :=
  cLa (pc := 0) h dX4_familyOf_0 rfl (gGf (pc := 1) h dX4_familyOf_1 ff_X4_9_58 (Nat.le_of_ble_eq_true rfl) (Nat.le_of_ble_eq_true rfl) rfl (cLi (pc := 4) h dX4_familyOf_4 rfl (rAi (pc := 5) h dX4_familyOf_5 rfl (Nat.le_of_ble_eq_true rfl) (Nat.le_of_ble_eq_true rfl) (zI (pc := 6) h hm (Nat.le_refl _) dX4_familyOf_6))))
set_option maxRecDepth 20000 in
theorem lX4_familyOf_0 (a1 : Int32) (m : qM) : tX4_familyOf_0 [some (.ref 58), some (.int a1)] [] m = fX4_familyOf_0 a1 m := rfl
noncomputable def GX4_familyOf : qG Int32 := fun av m => match av with
  | [.ref 58, .int a1] => fX4_familyOf a1 m
  | _ => none
theorem spX4_familyOf : qSpI yX4_familyOf (.code yX4_familyOf cX4_familyOf 2 (some .int)) 0 qfin 155 155 1 GX4_familyOf := by
  intro av m x m' hG
  unfold GX4_familyOf at hG
  split at hG
  · rename_i a1
    rw [fX4_familyOf_d] at hG
    exact ⟨qmeet (J := jI) (r := (x, m')) (av := [.ref 58, .int a1]) (by decide +kernel) (Nat.le_of_ble_eq_true rfl) (fun C w h hm hx hn => sX4_familyOf_0 h hm hx) ((lX4_familyOf_0 _ _).trans hG) (Nat.le_of_ble_eq_true rfl), Or.inl ⟨58, _, 4, _, _, rfl, by decide, rfl, qCk_4, rfl⟩⟩
  · cases hG
theorem dX3_yearsOf_0 : decode cX3_yearsOf 0 = .ok (.aload_n 0, 1) := by decide +kernel
theorem dX3_yearsOf_1 : decode cX3_yearsOf 1 = .ok (.getfield 30, 3) := by decide +kernel
theorem dX3_yearsOf_4 : decode cX3_yearsOf 4 = .ok (.iload_n 1, 1) := by decide +kernel
theorem dX3_yearsOf_5 : decode cX3_yearsOf 5 = .ok (.iaload, 1) := by decide +kernel
theorem dX3_yearsOf_6 : decode cX3_yearsOf 6 = .ok (.ireturn, 1) := by decide +kernel
noncomputable def tX3_yearsOf_0 : qT (Int32 × qM) :=
  oLa 0 (oGf 47 7 54 (oLi 1 (oAi 54 15 (eI))))
set_option maxRecDepth 20000 in
theorem sX3_yearsOf_0 {C : qCx} {w : qWp} (h : qOk C w RX3 cX3_yearsOf 2 0 155 155) (hm : qMt C (some .int)) (hx : qNx C) : qSnd C w 2 155 (qQf C w 155 155 jI) qfin 155 0 (tX3_yearsOf_0) :=
  cLa (pc := 0) h dX3_yearsOf_0 rfl (gGf (pc := 1) h dX3_yearsOf_1 ff_X3_30_47 (Nat.le_of_ble_eq_true rfl) (Nat.le_of_ble_eq_true rfl) rfl (cLi (pc := 4) h dX3_yearsOf_4 rfl (rAi (pc := 5) h dX3_yearsOf_5 rfl (Nat.le_of_ble_eq_true rfl) (Nat.le_of_ble_eq_true rfl) (zI (pc := 6) h hm (Nat.le_refl _) dX3_yearsOf_6))))
set_option maxRecDepth 20000 in
theorem lX3_yearsOf_0 (a1 : Int32) (m : qM) : tX3_yearsOf_0 [some (.ref 47), some (.int a1)] [] m = fX3_yearsOf_0 a1 m := rfl
noncomputable def GX3_yearsOf : qG Int32 := fun av m => match av with
  | [.ref 47, .int a1] => fX3_yearsOf a1 m
  | _ => none
theorem spX3_yearsOf : qSpI yX3_yearsOf (.code yX3_yearsOf cX3_yearsOf 2 (some .int)) 0 qfin 155 155 1 GX3_yearsOf := by
  intro av m x m' hG
  unfold GX3_yearsOf at hG
  split at hG
  · rename_i a1
    rw [fX3_yearsOf_d] at hG
    exact ⟨qmeet (J := jI) (r := (x, m')) (av := [.ref 47, .int a1]) (by decide +kernel) (Nat.le_of_ble_eq_true rfl) (fun C w h hm hx hn => sX3_yearsOf_0 h hm hx) ((lX3_yearsOf_0 _ _).trans hG) (Nat.le_of_ble_eq_true rfl), Or.inl ⟨47, _, 3, _, _, rfl, by decide, rfl, qCk_3, rfl⟩⟩
  · cases hG
theorem dX4_isLaid_0 : decode cX4_isLaid 0 = .ok (.aload_n 0, 1) := by decide +kernel
theorem dX4_isLaid_1 : decode cX4_isLaid 1 = .ok (.getfield 22, 3) := by decide +kernel
theorem dX4_isLaid_4 : decode cX4_isLaid 4 = .ok (.iload_n 1, 1) := by decide +kernel
theorem dX4_isLaid_5 : decode cX4_isLaid 5 = .ok (.iaload, 1) := by decide +kernel
theorem dX4_isLaid_6 : decode cX4_isLaid 6 = .ok (.iconst (-1), 1) := by decide +kernel
theorem dX4_isLaid_7 : decode cX4_isLaid 7 = .ok (.if_icmp .eq 7, 3) := by decide +kernel
theorem dX4_isLaid_10 : decode cX4_isLaid 10 = .ok (.iconst 1, 1) := by decide +kernel
theorem dX4_isLaid_11 : decode cX4_isLaid 11 = .ok (.goto 4, 3) := by decide +kernel
theorem dX4_isLaid_14 : decode cX4_isLaid 14 = .ok (.iconst 0, 1) := by decide +kernel
theorem dX4_isLaid_15 : decode cX4_isLaid 15 = .ok (.ireturn, 1) := by decide +kernel
noncomputable def tX4_isLaid_9 : qT (Int32 × qM) :=
  eZ
noncomputable def wX4_isLaid_9 (k : Int32 → qM → Option (Int32 × qM)) : qT (Int32 × qM) := fun lo st m => match lo, st with
  | [_, _], [.int s0] => k s0 m
  | _, _ => none
set_option maxRecDepth 20000 in
theorem sX4_isLaid_9 {C : qCx} {w : qWp} (h : qOk C w RX4 cX4_isLaid 2 0 155 155) (hm : qMt C (some .boolean)) (hx : qNx C) : qSnd C w 2 155 (qQf C w 155 155 jI) qfin 155 15 (tX4_isLaid_9) :=
  zZ (pc := 15) h hm (Nat.le_refl _) dX4_isLaid_15
set_option maxRecDepth 20000 in
theorem lX4_isLaid_9 (s0 : Int32) (m : qM) : tX4_isLaid_9 [none, none] [(.int s0)] m = fX4_isLaid_9 s0 m := rfl
theorem bX4_isLaid_9 {C : qCx} {w : qWp} (h : qOk C w RX4 cX4_isLaid 2 0 155 155) (hm : qMt C (some .boolean)) (hx : qNx C) : qSnd C w 2 155 (qQf C w 155 155 jI) qfin 155 15 (wX4_isLaid_9 fX4_isLaid_9) :=
  qSnd_of (fun lo st m x hr0 => by
    unfold wX4_isLaid_9 at hr0
    split at hr0
    · exact ⟨_, (qsub_n (qsub_n qsub_nil)), (lX4_isLaid_9 _ _).trans hr0⟩
    · cases hr0) (sX4_isLaid_9 h hm hx)
noncomputable def tX4_isLaid_0 (j9 : qT (Int32 × qM)) : qT (Int32 × qM) :=
  oLa 0 (oGf 58 5 62 (oLi 1 (oAi 62 40 (oC (.int (-1 : Int32)) (oCEq (oC (.int (0 : Int32)) (j9)) (oC (.int (1 : Int32)) (j9)))))))
set_option maxRecDepth 20000 in
theorem sX4_isLaid_0 {C : qCx} {w : qWp} (h : qOk C w RX4 cX4_isLaid 2 0 155 155) (hm : qMt C (some .boolean)) (hx : qNx C) {j9 : qT (Int32 × qM)} (k9 : qSnd C w 2 155 (qQf C w 155 155 jI) qfin 155 15 j9) : qSnd C w 2 155 (qQf C w 155 155 jI) qfin 155 0 (tX4_isLaid_0 j9) :=
  cLa (pc := 0) h dX4_isLaid_0 rfl (gGf (pc := 1) h dX4_isLaid_1 ff_X4_22_58 (Nat.le_of_ble_eq_true rfl) (Nat.le_of_ble_eq_true rfl) rfl (cLi (pc := 4) h dX4_isLaid_4 rfl (rAi (pc := 5) h dX4_isLaid_5 rfl (Nat.le_of_ble_eq_true rfl) (Nat.le_of_ble_eq_true rfl) (cC (pc := 6) h dX4_isLaid_6 rfl (jCEq (pc := 7) h dX4_isLaid_7 rfl (cC (pc := 14) h dX4_isLaid_14 rfl (k9)) (cC (pc := 10) h dX4_isLaid_10 rfl (jGo (pc := 11) h dX4_isLaid_11 rfl (k9))))))))
set_option maxRecDepth 20000 in
theorem lX4_isLaid_0 (a1 : Int32) (m : qM) : tX4_isLaid_0 (wX4_isLaid_9 fX4_isLaid_9) [some (.ref 58), some (.int a1)] [] m = fX4_isLaid_0 a1 m := rfl
noncomputable def GX4_isLaid : qG Int32 := fun av m => match av with
  | [.ref 58, .int a1] => fX4_isLaid a1 m
  | _ => none
theorem spX4_isLaid : qSpI yX4_isLaid (.code yX4_isLaid cX4_isLaid 2 (some .boolean)) 0 qfin 155 155 1 GX4_isLaid := by
  intro av m x m' hG
  unfold GX4_isLaid at hG
  split at hG
  · rename_i a1
    rw [fX4_isLaid_d] at hG
    exact ⟨qmeet (J := jI) (r := (x, m')) (av := [.ref 58, .int a1]) (by decide +kernel) (Nat.le_of_ble_eq_true rfl) (fun C w h hm hx hn => sX4_isLaid_0 h hm hx (bX4_isLaid_9 h hm hx)) ((lX4_isLaid_0 _ _).trans hG) (Nat.le_of_ble_eq_true rfl), Or.inl ⟨58, _, 4, _, _, rfl, by decide, rfl, qCk_4, rfl⟩⟩
  · cases hG
theorem dX3_familySlots_0 : decode cX3_familySlots 0 = .ok (.aload_n 0, 1) := by decide +kernel
theorem dX3_familySlots_1 : decode cX3_familySlots 1 = .ok (.getfield 21, 3) := by decide +kernel
theorem dX3_familySlots_4 : decode cX3_familySlots 4 = .ok (.iload_n 1, 1) := by decide +kernel
theorem dX3_familySlots_5 : decode cX3_familySlots 5 = .ok (.iaload, 1) := by decide +kernel
theorem dX3_familySlots_6 : decode cX3_familySlots 6 = .ok (.ireturn, 1) := by decide +kernel
noncomputable def tX3_familySlots_0 : qT (Int32 × qM) :=
  oLa 0 (oGf 47 4 51 (oLi 1 (oAi 51 15 (eI))))
set_option maxRecDepth 20000 in
theorem sX3_familySlots_0 {C : qCx} {w : qWp} (h : qOk C w RX3 cX3_familySlots 2 0 155 155) (hm : qMt C (some .int)) (hx : qNx C) : qSnd C w 2 155 (qQf C w 155 155 jI) qfin 155 0 (tX3_familySlots_0) :=
  cLa (pc := 0) h dX3_familySlots_0 rfl (gGf (pc := 1) h dX3_familySlots_1 ff_X3_21_47 (Nat.le_of_ble_eq_true rfl) (Nat.le_of_ble_eq_true rfl) rfl (cLi (pc := 4) h dX3_familySlots_4 rfl (rAi (pc := 5) h dX3_familySlots_5 rfl (Nat.le_of_ble_eq_true rfl) (Nat.le_of_ble_eq_true rfl) (zI (pc := 6) h hm (Nat.le_refl _) dX3_familySlots_6))))
set_option maxRecDepth 20000 in
theorem lX3_familySlots_0 (a1 : Int32) (m : qM) : tX3_familySlots_0 [some (.ref 47), some (.int a1)] [] m = fX3_familySlots_0 a1 m := rfl
noncomputable def GX3_familySlots : qG Int32 := fun av m => match av with
  | [.ref 47, .int a1] => fX3_familySlots a1 m
  | _ => none
theorem spX3_familySlots : qSpI yX3_familySlots (.code yX3_familySlots cX3_familySlots 2 (some .int)) 0 qfin 155 155 1 GX3_familySlots := by
  intro av m x m' hG
  unfold GX3_familySlots at hG
  split at hG
  · rename_i a1
    rw [fX3_familySlots_d] at hG
    exact ⟨qmeet (J := jI) (r := (x, m')) (av := [.ref 47, .int a1]) (by decide +kernel) (Nat.le_of_ble_eq_true rfl) (fun C w h hm hx hn => sX3_familySlots_0 h hm hx) ((lX3_familySlots_0 _ _).trans hG) (Nat.le_of_ble_eq_true rfl), Or.inl ⟨47, _, 3, _, _, rfl, by decide, rfl, qCk_3, rfl⟩⟩
  · cases hG
theorem dX3_teacherSlots_0 : decode cX3_teacherSlots 0 = .ok (.aload_n 0, 1) := by decide +kernel
theorem dX3_teacherSlots_1 : decode cX3_teacherSlots 1 = .ok (.getfield 18, 3) := by decide +kernel
theorem dX3_teacherSlots_4 : decode cX3_teacherSlots 4 = .ok (.iload_n 1, 1) := by decide +kernel
theorem dX3_teacherSlots_5 : decode cX3_teacherSlots 5 = .ok (.iaload, 1) := by decide +kernel
theorem dX3_teacherSlots_6 : decode cX3_teacherSlots 6 = .ok (.ireturn, 1) := by decide +kernel
noncomputable def tX3_teacherSlots_0 : qT (Int32 × qM) :=
  oLa 0 (oGf 47 3 50 (oLi 1 (oAi 50 10 (eI))))
set_option maxRecDepth 20000 in
theorem sX3_teacherSlots_0 {C : qCx} {w : qWp} (h : qOk C w RX3 cX3_teacherSlots 2 0 155 155) (hm : qMt C (some .int)) (hx : qNx C) : qSnd C w 2 155 (qQf C w 155 155 jI) qfin 155 0 (tX3_teacherSlots_0) :=
  cLa (pc := 0) h dX3_teacherSlots_0 rfl (gGf (pc := 1) h dX3_teacherSlots_1 ff_X3_18_47 (Nat.le_of_ble_eq_true rfl) (Nat.le_of_ble_eq_true rfl) rfl (cLi (pc := 4) h dX3_teacherSlots_4 rfl (rAi (pc := 5) h dX3_teacherSlots_5 rfl (Nat.le_of_ble_eq_true rfl) (Nat.le_of_ble_eq_true rfl) (zI (pc := 6) h hm (Nat.le_refl _) dX3_teacherSlots_6))))
set_option maxRecDepth 20000 in
theorem lX3_teacherSlots_0 (a1 : Int32) (m : qM) : tX3_teacherSlots_0 [some (.ref 47), some (.int a1)] [] m = fX3_teacherSlots_0 a1 m := rfl
noncomputable def GX3_teacherSlots : qG Int32 := fun av m => match av with
  | [.ref 47, .int a1] => fX3_teacherSlots a1 m
  | _ => none
theorem spX3_teacherSlots : qSpI yX3_teacherSlots (.code yX3_teacherSlots cX3_teacherSlots 2 (some .int)) 0 qfin 155 155 1 GX3_teacherSlots := by
  intro av m x m' hG
  unfold GX3_teacherSlots at hG
  split at hG
  · rename_i a1
    rw [fX3_teacherSlots_d] at hG
    exact ⟨qmeet (J := jI) (r := (x, m')) (av := [.ref 47, .int a1]) (by decide +kernel) (Nat.le_of_ble_eq_true rfl) (fun C w h hm hx hn => sX3_teacherSlots_0 h hm hx) ((lX3_teacherSlots_0 _ _).trans hG) (Nat.le_of_ble_eq_true rfl), Or.inl ⟨47, _, 3, _, _, rfl, by decide, rfl, qCk_3, rfl⟩⟩
  · cases hG
theorem dX3_tongueOf_0 : decode cX3_tongueOf 0 = .ok (.aload_n 0, 1) := by decide +kernel
theorem dX3_tongueOf_1 : decode cX3_tongueOf 1 = .ok (.getfield 24, 3) := by decide +kernel
theorem dX3_tongueOf_4 : decode cX3_tongueOf 4 = .ok (.iload_n 1, 1) := by decide +kernel
theorem dX3_tongueOf_5 : decode cX3_tongueOf 5 = .ok (.iaload, 1) := by decide +kernel
theorem dX3_tongueOf_6 : decode cX3_tongueOf 6 = .ok (.ireturn, 1) := by decide +kernel
noncomputable def tX3_tongueOf_0 : qT (Int32 × qM) :=
  oLa 0 (oGf 47 5 52 (oLi 1 (oAi 52 15 (eI))))
set_option maxRecDepth 20000 in
theorem sX3_tongueOf_0 {C : qCx} {w : qWp} (h : qOk C w RX3 cX3_tongueOf 2 0 155 155) (hm : qMt C (some .int)) (hx : qNx C) : qSnd C w 2 155 (qQf C w 155 155 jI) qfin 155 0 (tX3_tongueOf_0) :=
  cLa (pc := 0) h dX3_tongueOf_0 rfl (gGf (pc := 1) h dX3_tongueOf_1 ff_X3_24_47 (Nat.le_of_ble_eq_true rfl) (Nat.le_of_ble_eq_true rfl) rfl (cLi (pc := 4) h dX3_tongueOf_4 rfl (rAi (pc := 5) h dX3_tongueOf_5 rfl (Nat.le_of_ble_eq_true rfl) (Nat.le_of_ble_eq_true rfl) (zI (pc := 6) h hm (Nat.le_refl _) dX3_tongueOf_6))))
set_option maxRecDepth 20000 in
theorem lX3_tongueOf_0 (a1 : Int32) (m : qM) : tX3_tongueOf_0 [some (.ref 47), some (.int a1)] [] m = fX3_tongueOf_0 a1 m := rfl
noncomputable def GX3_tongueOf : qG Int32 := fun av m => match av with
  | [.ref 47, .int a1] => fX3_tongueOf a1 m
  | _ => none
theorem spX3_tongueOf : qSpI yX3_tongueOf (.code yX3_tongueOf cX3_tongueOf 2 (some .int)) 0 qfin 155 155 1 GX3_tongueOf := by
  intro av m x m' hG
  unfold GX3_tongueOf at hG
  split at hG
  · rename_i a1
    rw [fX3_tongueOf_d] at hG
    exact ⟨qmeet (J := jI) (r := (x, m')) (av := [.ref 47, .int a1]) (by decide +kernel) (Nat.le_of_ble_eq_true rfl) (fun C w h hm hx hn => sX3_tongueOf_0 h hm hx) ((lX3_tongueOf_0 _ _).trans hG) (Nat.le_of_ble_eq_true rfl), Or.inl ⟨47, _, 3, _, _, rfl, by decide, rfl, qCk_3, rfl⟩⟩
  · cases hG
theorem dX4_askOf_0 : decode cX4_askOf 0 = .ok (.aload_n 0, 1) := by decide +kernel
theorem dX4_askOf_1 : decode cX4_askOf 1 = .ok (.getfield 25, 3) := by decide +kernel
theorem dX4_askOf_4 : decode cX4_askOf 4 = .ok (.iload_n 1, 1) := by decide +kernel
theorem dX4_askOf_5 : decode cX4_askOf 5 = .ok (.bipush 10, 2) := by decide +kernel
theorem dX4_askOf_7 : decode cX4_askOf 7 = .ok (.imul, 1) := by decide +kernel
theorem dX4_askOf_8 : decode cX4_askOf 8 = .ok (.iload_n 2, 1) := by decide +kernel
theorem dX4_askOf_9 : decode cX4_askOf 9 = .ok (.iadd, 1) := by decide +kernel
theorem dX4_askOf_10 : decode cX4_askOf 10 = .ok (.iaload, 1) := by decide +kernel
theorem dX4_askOf_11 : decode cX4_askOf 11 = .ok (.ireturn, 1) := by decide +kernel
noncomputable def tX4_askOf_0 : qT (Int32 × qM) :=
  oLa 0 (oGf 58 6 63 (oLi 1 (oC (.int (10 : Int32)) (o2 (· * ·) (oLi 2 (o2 (· + ·) (oAi 63 150 (eI))))))))
set_option maxRecDepth 20000 in
theorem sX4_askOf_0 {C : qCx} {w : qWp} (h : qOk C w RX4 cX4_askOf 3 0 155 155) (hm : qMt C (some .int)) (hx : qNx C) : qSnd C w 3 155 (qQf C w 155 155 jI) qfin 155 0 (tX4_askOf_0) :=
  cLa (pc := 0) h dX4_askOf_0 rfl (gGf (pc := 1) h dX4_askOf_1 ff_X4_25_58 (Nat.le_of_ble_eq_true rfl) (Nat.le_of_ble_eq_true rfl) rfl (cLi (pc := 4) h dX4_askOf_4 rfl (cB (pc := 5) h dX4_askOf_5 rfl (aMul (pc := 7) h dX4_askOf_7 (cLi (pc := 8) h dX4_askOf_8 rfl (aAdd (pc := 9) h dX4_askOf_9 (rAi (pc := 10) h dX4_askOf_10 rfl (Nat.le_of_ble_eq_true rfl) (Nat.le_of_ble_eq_true rfl) (zI (pc := 11) h hm (Nat.le_refl _) dX4_askOf_11))))))))
set_option maxRecDepth 20000 in
theorem lX4_askOf_0 (a1 : Int32) (a2 : Int32) (m : qM) : tX4_askOf_0 [some (.ref 58), some (.int a1), some (.int a2)] [] m = fX4_askOf_0 a1 a2 m := rfl
noncomputable def GX4_askOf : qG Int32 := fun av m => match av with
  | [.ref 58, .int a1, .int a2] => fX4_askOf a1 a2 m
  | _ => none
theorem spX4_askOf : qSpI yX4_askOf (.code yX4_askOf cX4_askOf 3 (some .int)) 0 qfin 155 155 1 GX4_askOf := by
  intro av m x m' hG
  unfold GX4_askOf at hG
  split at hG
  · rename_i a1 a2
    rw [fX4_askOf_d] at hG
    exact ⟨qmeet (J := jI) (r := (x, m')) (av := [.ref 58, .int a1, .int a2]) (by decide +kernel) (Nat.le_of_ble_eq_true rfl) (fun C w h hm hx hn => sX4_askOf_0 h hm hx) ((lX4_askOf_0 _ _ _).trans hG) (Nat.le_of_ble_eq_true rfl), Or.inl ⟨58, _, 4, _, _, rfl, by decide, rfl, qCk_4, rfl⟩⟩
  · cases hG
theorem dX3_walkSlots_0 : decode cX3_walkSlots 0 = .ok (.aload_n 0, 1) := by decide +kernel
theorem dX3_walkSlots_1 : decode cX3_walkSlots 1 = .ok (.getfield 39, 3) := by decide +kernel
theorem dX3_walkSlots_4 : decode cX3_walkSlots 4 = .ok (.iload_n 1, 1) := by decide +kernel
theorem dX3_walkSlots_5 : decode cX3_walkSlots 5 = .ok (.bipush 10, 2) := by decide +kernel
theorem dX3_walkSlots_7 : decode cX3_walkSlots 7 = .ok (.imul, 1) := by decide +kernel
theorem dX3_walkSlots_8 : decode cX3_walkSlots 8 = .ok (.iload_n 2, 1) := by decide +kernel
theorem dX3_walkSlots_9 : decode cX3_walkSlots 9 = .ok (.iadd, 1) := by decide +kernel
theorem dX3_walkSlots_10 : decode cX3_walkSlots 10 = .ok (.iaload, 1) := by decide +kernel
theorem dX3_walkSlots_11 : decode cX3_walkSlots 11 = .ok (.ireturn, 1) := by decide +kernel
noncomputable def tX3_walkSlots_0 : qT (Int32 × qM) :=
  oLa 0 (oGf 47 10 57 (oLi 1 (oC (.int (10 : Int32)) (o2 (· * ·) (oLi 2 (o2 (· + ·) (oAi 57 100 (eI))))))))
set_option maxRecDepth 20000 in
theorem sX3_walkSlots_0 {C : qCx} {w : qWp} (h : qOk C w RX3 cX3_walkSlots 3 0 155 155) (hm : qMt C (some .int)) (hx : qNx C) : qSnd C w 3 155 (qQf C w 155 155 jI) qfin 155 0 (tX3_walkSlots_0) :=
  cLa (pc := 0) h dX3_walkSlots_0 rfl (gGf (pc := 1) h dX3_walkSlots_1 ff_X3_39_47 (Nat.le_of_ble_eq_true rfl) (Nat.le_of_ble_eq_true rfl) rfl (cLi (pc := 4) h dX3_walkSlots_4 rfl (cB (pc := 5) h dX3_walkSlots_5 rfl (aMul (pc := 7) h dX3_walkSlots_7 (cLi (pc := 8) h dX3_walkSlots_8 rfl (aAdd (pc := 9) h dX3_walkSlots_9 (rAi (pc := 10) h dX3_walkSlots_10 rfl (Nat.le_of_ble_eq_true rfl) (Nat.le_of_ble_eq_true rfl) (zI (pc := 11) h hm (Nat.le_refl _) dX3_walkSlots_11))))))))
set_option maxRecDepth 20000 in
theorem lX3_walkSlots_0 (a1 : Int32) (a2 : Int32) (m : qM) : tX3_walkSlots_0 [some (.ref 47), some (.int a1), some (.int a2)] [] m = fX3_walkSlots_0 a1 a2 m := rfl
noncomputable def GX3_walkSlots : qG Int32 := fun av m => match av with
  | [.ref 47, .int a1, .int a2] => fX3_walkSlots a1 a2 m
  | _ => none
theorem spX3_walkSlots : qSpI yX3_walkSlots (.code yX3_walkSlots cX3_walkSlots 3 (some .int)) 0 qfin 155 155 1 GX3_walkSlots := by
  intro av m x m' hG
  unfold GX3_walkSlots at hG
  split at hG
  · rename_i a1 a2
    rw [fX3_walkSlots_d] at hG
    exact ⟨qmeet (J := jI) (r := (x, m')) (av := [.ref 47, .int a1, .int a2]) (by decide +kernel) (Nat.le_of_ble_eq_true rfl) (fun C w h hm hx hn => sX3_walkSlots_0 h hm hx) ((lX3_walkSlots_0 _ _ _).trans hG) (Nat.le_of_ble_eq_true rfl), Or.inl ⟨47, _, 3, _, _, rfl, by decide, rfl, qCk_3, rfl⟩⟩
  · cases hG
theorem dJ9_max_7cf53_0 : decode cJ9_max_7cf53 0 = .ok (.iload_n 0, 1) := by decide +kernel
theorem dJ9_max_7cf53_1 : decode cJ9_max_7cf53 1 = .ok (.iload_n 1, 1) := by decide +kernel
theorem dJ9_max_7cf53_2 : decode cJ9_max_7cf53 2 = .ok (.if_icmp .lt 7, 3) := by decide +kernel
theorem dJ9_max_7cf53_5 : decode cJ9_max_7cf53 5 = .ok (.iload_n 0, 1) := by decide +kernel
theorem dJ9_max_7cf53_6 : decode cJ9_max_7cf53 6 = .ok (.goto 4, 3) := by decide +kernel
theorem dJ9_max_7cf53_9 : decode cJ9_max_7cf53 9 = .ok (.iload_n 1, 1) := by decide +kernel
theorem dJ9_max_7cf53_10 : decode cJ9_max_7cf53 10 = .ok (.ireturn, 1) := by decide +kernel
noncomputable def tJ9_max_7cf53_6 : qT (Int32 × qM) :=
  eI
noncomputable def wJ9_max_7cf53_6 (k : Int32 → qM → Option (Int32 × qM)) : qT (Int32 × qM) := fun lo st m => match lo, st with
  | [_, _], [.int s0] => k s0 m
  | _, _ => none
set_option maxRecDepth 20000 in
theorem sJ9_max_7cf53_6 {C : qCx} {w : qWp} (h : qOk C w RJ9 cJ9_max_7cf53 2 0 155 155) (hm : qMt C (some .int)) (hx : qNx C) : qSnd C w 2 155 (qQf C w 155 155 jI) qfin 155 10 (tJ9_max_7cf53_6) :=
  zI (pc := 10) h hm (Nat.le_refl _) dJ9_max_7cf53_10
set_option maxRecDepth 20000 in
theorem lJ9_max_7cf53_6 (s0 : Int32) (m : qM) : tJ9_max_7cf53_6 [none, none] [(.int s0)] m = fJ9_max_7cf53_6 s0 m := rfl
theorem bJ9_max_7cf53_6 {C : qCx} {w : qWp} (h : qOk C w RJ9 cJ9_max_7cf53 2 0 155 155) (hm : qMt C (some .int)) (hx : qNx C) : qSnd C w 2 155 (qQf C w 155 155 jI) qfin 155 10 (wJ9_max_7cf53_6 fJ9_max_7cf53_6) :=
  qSnd_of (fun lo st m x hr0 => by
    unfold wJ9_max_7cf53_6 at hr0
    split at hr0
    · exact ⟨_, (qsub_n (qsub_n qsub_nil)), (lJ9_max_7cf53_6 _ _).trans hr0⟩
    · cases hr0) (sJ9_max_7cf53_6 h hm hx)
noncomputable def tJ9_max_7cf53_0 (j6 : qT (Int32 × qM)) : qT (Int32 × qM) :=
  oLi 0 (oLi 1 (oCLt (oLi 1 (j6)) (oLi 0 (j6))))
set_option maxRecDepth 20000 in
theorem sJ9_max_7cf53_0 {C : qCx} {w : qWp} (h : qOk C w RJ9 cJ9_max_7cf53 2 0 155 155) (hm : qMt C (some .int)) (hx : qNx C) {j6 : qT (Int32 × qM)} (k6 : qSnd C w 2 155 (qQf C w 155 155 jI) qfin 155 10 j6) : qSnd C w 2 155 (qQf C w 155 155 jI) qfin 155 0 (tJ9_max_7cf53_0 j6) :=
  cLi (pc := 0) h dJ9_max_7cf53_0 rfl (cLi (pc := 1) h dJ9_max_7cf53_1 rfl (jCLt (pc := 2) h dJ9_max_7cf53_2 rfl (cLi (pc := 9) h dJ9_max_7cf53_9 rfl (k6)) (cLi (pc := 5) h dJ9_max_7cf53_5 rfl (jGo (pc := 6) h dJ9_max_7cf53_6 rfl (k6)))))
set_option maxRecDepth 20000 in
theorem lJ9_max_7cf53_0 (a0 : Int32) (a1 : Int32) (m : qM) : tJ9_max_7cf53_0 (wJ9_max_7cf53_6 fJ9_max_7cf53_6) [some (.int a0), some (.int a1)] [] m = fJ9_max_7cf53_0 a0 a1 m := rfl
noncomputable def GJ9_max_7cf53 : qG Int32 := fun av m => match av with
  | [.int a0, .int a1] => fJ9_max_7cf53 a0 a1 m
  | _ => none
theorem spJ9_max_7cf53 : qSpI yJ9_max_7cf53 (.code yJ9_max_7cf53 cJ9_max_7cf53 2 (some .int)) 0 qfin 155 155 0 GJ9_max_7cf53 := by
  intro av m x m' hG
  unfold GJ9_max_7cf53 at hG
  split at hG
  · rename_i a0 a1
    rw [fJ9_max_7cf53_d] at hG
    exact ⟨qmeet (J := jI) (r := (x, m')) (av := [.int a0, .int a1]) (by decide +kernel) (Nat.le_of_ble_eq_true rfl) (fun C w h hm hx hn => sJ9_max_7cf53_0 h hm hx (bJ9_max_7cf53_6 h hm hx)) ((lJ9_max_7cf53_0 _ _ _).trans hG) (Nat.le_of_ble_eq_true rfl), trivial⟩
  · cases hG
theorem dJ9_min_7cf53_0 : decode cJ9_min_7cf53 0 = .ok (.iload_n 0, 1) := by decide +kernel
theorem dJ9_min_7cf53_1 : decode cJ9_min_7cf53 1 = .ok (.iload_n 1, 1) := by decide +kernel
theorem dJ9_min_7cf53_2 : decode cJ9_min_7cf53 2 = .ok (.if_icmp .gt 7, 3) := by decide +kernel
theorem dJ9_min_7cf53_5 : decode cJ9_min_7cf53 5 = .ok (.iload_n 0, 1) := by decide +kernel
theorem dJ9_min_7cf53_6 : decode cJ9_min_7cf53 6 = .ok (.goto 4, 3) := by decide +kernel
theorem dJ9_min_7cf53_9 : decode cJ9_min_7cf53 9 = .ok (.iload_n 1, 1) := by decide +kernel
theorem dJ9_min_7cf53_10 : decode cJ9_min_7cf53 10 = .ok (.ireturn, 1) := by decide +kernel
noncomputable def tJ9_min_7cf53_6 : qT (Int32 × qM) :=
  eI
noncomputable def wJ9_min_7cf53_6 (k : Int32 → qM → Option (Int32 × qM)) : qT (Int32 × qM) := fun lo st m => match lo, st with
  | [_, _], [.int s0] => k s0 m
  | _, _ => none
set_option maxRecDepth 20000 in
theorem sJ9_min_7cf53_6 {C : qCx} {w : qWp} (h : qOk C w RJ9 cJ9_min_7cf53 2 0 155 155) (hm : qMt C (some .int)) (hx : qNx C) : qSnd C w 2 155 (qQf C w 155 155 jI) qfin 155 10 (tJ9_min_7cf53_6) :=
  zI (pc := 10) h hm (Nat.le_refl _) dJ9_min_7cf53_10
set_option maxRecDepth 20000 in
theorem lJ9_min_7cf53_6 (s0 : Int32) (m : qM) : tJ9_min_7cf53_6 [none, none] [(.int s0)] m = fJ9_min_7cf53_6 s0 m := rfl
theorem bJ9_min_7cf53_6 {C : qCx} {w : qWp} (h : qOk C w RJ9 cJ9_min_7cf53 2 0 155 155) (hm : qMt C (some .int)) (hx : qNx C) : qSnd C w 2 155 (qQf C w 155 155 jI) qfin 155 10 (wJ9_min_7cf53_6 fJ9_min_7cf53_6) :=
  qSnd_of (fun lo st m x hr0 => by
    unfold wJ9_min_7cf53_6 at hr0
    split at hr0
    · exact ⟨_, (qsub_n (qsub_n qsub_nil)), (lJ9_min_7cf53_6 _ _).trans hr0⟩
    · cases hr0) (sJ9_min_7cf53_6 h hm hx)
noncomputable def tJ9_min_7cf53_0 (j6 : qT (Int32 × qM)) : qT (Int32 × qM) :=
  oLi 0 (oLi 1 (oCGt (oLi 1 (j6)) (oLi 0 (j6))))
set_option maxRecDepth 20000 in
theorem sJ9_min_7cf53_0 {C : qCx} {w : qWp} (h : qOk C w RJ9 cJ9_min_7cf53 2 0 155 155) (hm : qMt C (some .int)) (hx : qNx C) {j6 : qT (Int32 × qM)} (k6 : qSnd C w 2 155 (qQf C w 155 155 jI) qfin 155 10 j6) : qSnd C w 2 155 (qQf C w 155 155 jI) qfin 155 0 (tJ9_min_7cf53_0 j6) :=
  cLi (pc := 0) h dJ9_min_7cf53_0 rfl (cLi (pc := 1) h dJ9_min_7cf53_1 rfl (jCGt (pc := 2) h dJ9_min_7cf53_2 rfl (cLi (pc := 9) h dJ9_min_7cf53_9 rfl (k6)) (cLi (pc := 5) h dJ9_min_7cf53_5 rfl (jGo (pc := 6) h dJ9_min_7cf53_6 rfl (k6)))))
set_option maxRecDepth 20000 in
theorem lJ9_min_7cf53_0 (a0 : Int32) (a1 : Int32) (m : qM) : tJ9_min_7cf53_0 (wJ9_min_7cf53_6 fJ9_min_7cf53_6) [some (.int a0), some (.int a1)] [] m = fJ9_min_7cf53_0 a0 a1 m := rfl
noncomputable def GJ9_min_7cf53 : qG Int32 := fun av m => match av with
  | [.int a0, .int a1] => fJ9_min_7cf53 a0 a1 m
  | _ => none
theorem spJ9_min_7cf53 : qSpI yJ9_min_7cf53 (.code yJ9_min_7cf53 cJ9_min_7cf53 2 (some .int)) 0 qfin 155 155 0 GJ9_min_7cf53 := by
  intro av m x m' hG
  unfold GJ9_min_7cf53 at hG
  split at hG
  · rename_i a0 a1
    rw [fJ9_min_7cf53_d] at hG
    exact ⟨qmeet (J := jI) (r := (x, m')) (av := [.int a0, .int a1]) (by decide +kernel) (Nat.le_of_ble_eq_true rfl) (fun C w h hm hx hn => sJ9_min_7cf53_0 h hm hx (bJ9_min_7cf53_6 h hm hx)) ((lJ9_min_7cf53_0 _ _ _).trans hG) (Nat.le_of_ble_eq_true rfl), trivial⟩
  · cases hG
theorem im_J9_max_7cf53 : Jvm.Cond.static yJ9_max_7cf53 ∈ qTw := qm2 (List.mem_of_getElem? (i := 225) (by decide +kernel)) (by decide +kernel)
theorem in_java_lang_Math : Jvm.Cond.initialized "java/lang/Math" ∈ qTw := qm1 (List.mem_of_getElem? (i := 17) (by decide +kernel)) (by decide +kernel)
theorem co_J9_max_7cf53 : Jvm.Cond.code yJ9_max_7cf53 cJ9_max_7cf53 2 (some .int) ∈ qTw := qm2 (List.mem_of_getElem? (i := 226) (by decide +kernel)) (by decide +kernel)
theorem yk_J9_max_7cf53 : qYk yJ9_max_7cf53 2 := ⟨⟨by decide +kernel, by decide +kernel⟩, by decide +kernel⟩
theorem ml_X11_354 : Jvm.Cond.methodLink RX11 354 yJ9_max_7cf53 ∈ qTw := qm3 (List.mem_of_getElem? (i := 228) (by decide +kernel)) (by decide +kernel)
theorem kd_X11_354 {C : qCx} {w : qWp} {cc : ByteArray} {nL dp n0 n1 pc : Nat} (h : qOk C w RX11 cc nL dp n0 n1) (d : decode cc pc = .ok (.invokestatic 354, 3)) : qCallOk C w nL dp n0 n1 pc 2 0 yJ9_max_7cf53 (.code yJ9_max_7cf53 cJ9_max_7cf53 2 (some .int)) := kindS h d ml_X11_354 im_J9_max_7cf53 in_java_lang_Math co_J9_max_7cf53 yk_J9_max_7cf53 (by decide)
theorem im_J9_min_7cf53 : Jvm.Cond.static yJ9_min_7cf53 ∈ qTw := qm2 (List.mem_of_getElem? (i := 222) (by decide +kernel)) (by decide +kernel)
theorem co_J9_min_7cf53 : Jvm.Cond.code yJ9_min_7cf53 cJ9_min_7cf53 2 (some .int) ∈ qTw := qm2 (List.mem_of_getElem? (i := 223) (by decide +kernel)) (by decide +kernel)
theorem yk_J9_min_7cf53 : qYk yJ9_min_7cf53 2 := ⟨⟨by decide +kernel, by decide +kernel⟩, by decide +kernel⟩
theorem ml_X11_218 : Jvm.Cond.methodLink RX11 218 yJ9_min_7cf53 ∈ qTw := qm3 (List.mem_of_getElem? (i := 229) (by decide +kernel)) (by decide +kernel)
theorem kd_X11_218 {C : qCx} {w : qWp} {cc : ByteArray} {nL dp n0 n1 pc : Nat} (h : qOk C w RX11 cc nL dp n0 n1) (d : decode cc pc = .ok (.invokestatic 218, 3)) : qCallOk C w nL dp n0 n1 pc 2 0 yJ9_min_7cf53 (.code yJ9_min_7cf53 cJ9_min_7cf53 2 (some .int)) := kindS h d ml_X11_218 im_J9_min_7cf53 in_java_lang_Math co_J9_min_7cf53 yk_J9_min_7cf53 (by decide)
theorem dX11_slotsFrom_0 : decode cX11_slotsFrom 0 = .ok (.iload_n 0, 1) := by decide +kernel
theorem dX11_slotsFrom_1 : decode cX11_slotsFrom 1 = .ok (.iconst 0, 1) := by decide +kernel
theorem dX11_slotsFrom_2 : decode cX11_slotsFrom 2 = .ok (.invokestatic 354, 3) := by decide +kernel
theorem dX11_slotsFrom_5 : decode cX11_slotsFrom 5 = .ok (.istore_n 2, 1) := by decide +kernel
theorem dX11_slotsFrom_6 : decode cX11_slotsFrom 6 = .ok (.iload_n 1, 1) := by decide +kernel
theorem dX11_slotsFrom_7 : decode cX11_slotsFrom 7 = .ok (.bipush 19, 2) := by decide +kernel
theorem dX11_slotsFrom_9 : decode cX11_slotsFrom 9 = .ok (.invokestatic 218, 3) := by decide +kernel
theorem dX11_slotsFrom_12 : decode cX11_slotsFrom 12 = .ok (.istore_n 3, 1) := by decide +kernel
theorem dX11_slotsFrom_13 : decode cX11_slotsFrom 13 = .ok (.iload_n 2, 1) := by decide +kernel
theorem dX11_slotsFrom_14 : decode cX11_slotsFrom 14 = .ok (.iload_n 3, 1) := by decide +kernel
theorem dX11_slotsFrom_15 : decode cX11_slotsFrom 15 = .ok (.if_icmp .le 7, 3) := by decide +kernel
theorem dX11_slotsFrom_18 : decode cX11_slotsFrom 18 = .ok (.iconst 0, 1) := by decide +kernel
theorem dX11_slotsFrom_19 : decode cX11_slotsFrom 19 = .ok (.goto 14, 3) := by decide +kernel
theorem dX11_slotsFrom_22 : decode cX11_slotsFrom 22 = .ok (.iconst 1, 1) := by decide +kernel
theorem dX11_slotsFrom_23 : decode cX11_slotsFrom 23 = .ok (.iload_n 3, 1) := by decide +kernel
theorem dX11_slotsFrom_24 : decode cX11_slotsFrom 24 = .ok (.iload_n 2, 1) := by decide +kernel
theorem dX11_slotsFrom_25 : decode cX11_slotsFrom 25 = .ok (.isub, 1) := by decide +kernel
theorem dX11_slotsFrom_26 : decode cX11_slotsFrom 26 = .ok (.iconst 1, 1) := by decide +kernel
theorem dX11_slotsFrom_27 : decode cX11_slotsFrom 27 = .ok (.iadd, 1) := by decide +kernel
theorem dX11_slotsFrom_28 : decode cX11_slotsFrom 28 = .ok (.ishl, 1) := by decide +kernel
theorem dX11_slotsFrom_29 : decode cX11_slotsFrom 29 = .ok (.iconst 1, 1) := by decide +kernel
theorem dX11_slotsFrom_30 : decode cX11_slotsFrom 30 = .ok (.isub, 1) := by decide +kernel
theorem dX11_slotsFrom_31 : decode cX11_slotsFrom 31 = .ok (.iload_n 2, 1) := by decide +kernel
theorem dX11_slotsFrom_32 : decode cX11_slotsFrom 32 = .ok (.ishl, 1) := by decide +kernel
theorem dX11_slotsFrom_33 : decode cX11_slotsFrom 33 = .ok (.ireturn, 1) := by decide +kernel
noncomputable def tX11_slotsFrom_24 : qT (Int32 × qM) :=
  eI
noncomputable def wX11_slotsFrom_24 (k : Int32 → qM → Option (Int32 × qM)) : qT (Int32 × qM) := fun lo st m => match lo, st with
  | [_, _, _, _], [.int s0] => k s0 m
  | _, _ => none
set_option maxRecDepth 20000 in
theorem sX11_slotsFrom_24 {C : qCx} {w : qWp} (h : qOk C w RX11 cX11_slotsFrom 4 1 155 155) (hm : qMt C (some .int)) (hx : qNx C) : qSnd C w 4 155 (qQf C w 155 155 jI) qfin 155 33 (tX11_slotsFrom_24) :=
  zI (pc := 33) h hm (Nat.le_refl _) dX11_slotsFrom_33
set_option maxRecDepth 20000 in
theorem lX11_slotsFrom_24 (s0 : Int32) (m : qM) : tX11_slotsFrom_24 [none, none, none, none] [(.int s0)] m = fX11_slotsFrom_24 s0 m := rfl
theorem bX11_slotsFrom_24 {C : qCx} {w : qWp} (h : qOk C w RX11 cX11_slotsFrom 4 1 155 155) (hm : qMt C (some .int)) (hx : qNx C) : qSnd C w 4 155 (qQf C w 155 155 jI) qfin 155 33 (wX11_slotsFrom_24 fX11_slotsFrom_24) :=
  qSnd_of (fun lo st m x hr0 => by
    unfold wX11_slotsFrom_24 at hr0
    split at hr0
    · exact ⟨_, (qsub_n (qsub_n (qsub_n (qsub_n qsub_nil)))), (lX11_slotsFrom_24 _ _).trans hr0⟩
    · cases hr0) (sX11_slotsFrom_24 h hm hx)
noncomputable def tX11_slotsFrom_0 (j24 : qT (Int32 × qM)) : qT (Int32 × qM) :=
  oLi 0 (oC (.int (0 : Int32)) (oCi GJ9_max_7cf53 2 (oSi 2 (oLi 1 (oC (.int (19 : Int32)) (oCi GJ9_min_7cf53 2 (oSi 3 (oLi 2 (oLi 3 (oCLe (oC (.int (1 : Int32)) (oLi 3 (oLi 2 (o2 (· - ·) (oC (.int (1 : Int32)) (o2 (· + ·) (o2 (fun x y => x <<< (y &&& 31)) (oC (.int (1 : Int32)) (o2 (· - ·) (oLi 2 (o2 (fun x y => x <<< (y &&& 31)) (j24)))))))))))) (oC (.int (0 : Int32)) (j24))))))))))))
set_option maxRecDepth 20000 in
theorem sX11_slotsFrom_0 {C : qCx} {w : qWp} (h : qOk C w RX11 cX11_slotsFrom 4 1 155 155) (hm : qMt C (some .int)) (hx : qNx C) {j24 : qT (Int32 × qM)} (k24 : qSnd C w 4 155 (qQf C w 155 155 jI) qfin 155 33 j24) : qSnd C w 4 155 (qQf C w 155 155 jI) qfin 155 0 (tX11_slotsFrom_0 j24) :=
  cLi (pc := 0) h dX11_slotsFrom_0 rfl (cC (pc := 1) h dX11_slotsFrom_1 rfl (kCi (pc := 2) h (kd_X11_354 h dX11_slotsFrom_2) spJ9_max_7cf53 (by decide) (by decide) (by decide) (by decide) (cSi (pc := 5) h dX11_slotsFrom_5 rfl (cLi (pc := 6) h dX11_slotsFrom_6 rfl (cB (pc := 7) h dX11_slotsFrom_7 rfl (kCi (pc := 9) h (kd_X11_218 h dX11_slotsFrom_9) spJ9_min_7cf53 (by decide) (by decide) (by decide) (by decide) (cSi (pc := 12) h dX11_slotsFrom_12 rfl (cLi (pc := 13) h dX11_slotsFrom_13 rfl (cLi (pc := 14) h dX11_slotsFrom_14 rfl (jCLe (pc := 15) h dX11_slotsFrom_15 rfl (cC (pc := 22) h dX11_slotsFrom_22 rfl (cLi (pc := 23) h dX11_slotsFrom_23 rfl (cLi (pc := 24) h dX11_slotsFrom_24 rfl (aSub (pc := 25) h dX11_slotsFrom_25 (cC (pc := 26) h dX11_slotsFrom_26 rfl (aAdd (pc := 27) h dX11_slotsFrom_27 (aShl (pc := 28) h dX11_slotsFrom_28 (cC (pc := 29) h dX11_slotsFrom_29 rfl (aSub (pc := 30) h dX11_slotsFrom_30 (cLi (pc := 31) h dX11_slotsFrom_31 rfl (aShl (pc := 32) h dX11_slotsFrom_32 (k24)))))))))))) (cC (pc := 18) h dX11_slotsFrom_18 rfl (jGo (pc := 19) h dX11_slotsFrom_19 rfl (k24)))))))))))))
set_option maxRecDepth 20000 in
theorem lX11_slotsFrom_0 (a0 : Int32) (a1 : Int32) (m : qM) : tX11_slotsFrom_0 (wX11_slotsFrom_24 fX11_slotsFrom_24) [some (.int a0), some (.int a1), none, none] [] m = fX11_slotsFrom_0 a0 a1 m := rfl
noncomputable def GX11_slotsFrom : qG Int32 := fun av m => match av with
  | [.int a0, .int a1] => fX11_slotsFrom a0 a1 m
  | _ => none
theorem spX11_slotsFrom : qSpI yX11_slotsFrom (.code yX11_slotsFrom cX11_slotsFrom 4 (some .int)) 1 qfin 155 155 0 GX11_slotsFrom := by
  intro av m x m' hG
  unfold GX11_slotsFrom at hG
  split at hG
  · rename_i a0 a1
    rw [fX11_slotsFrom_d] at hG
    exact ⟨qmeet (J := jI) (r := (x, m')) (av := [.int a0, .int a1]) (by decide +kernel) (Nat.le_of_ble_eq_true rfl) (fun C w h hm hx hn => sX11_slotsFrom_0 h hm hx (bX11_slotsFrom_24 h hm hx)) ((lX11_slotsFrom_0 _ _ _).trans hG) (Nat.le_of_ble_eq_true rfl), trivial⟩
  · cases hG
theorem im_X4_askOf : Jvm.Cond.instanceMethod yX4_askOf ∈ qTw := qm4 (List.mem_of_getElem? (i := 35) (by decide +kernel)) (by decide +kernel)
theorem se_X4_askOf : Jvm.Cond.selects yX4_askOf.cls yX4_askOf yX4_askOf ∈ qTw := qm4 (List.mem_of_getElem? (i := 36) (by decide +kernel)) (by decide +kernel)
theorem co_X4_askOf : Jvm.Cond.code yX4_askOf cX4_askOf 3 (some .int) ∈ qTw := qm4 (List.mem_of_getElem? (i := 37) (by decide +kernel)) (by decide +kernel)
theorem yk_X4_askOf : qYk yX4_askOf 2 := ⟨⟨by decide +kernel, by decide +kernel⟩, by decide +kernel⟩
theorem ml_X4_103 : Jvm.Cond.methodLink RX4 103 yX4_askOf ∈ qTw := qm4 (List.mem_of_getElem? (i := 78) (by decide +kernel)) (by decide +kernel)
theorem kd_X4_103 {C : qCx} {w : qWp} {cc : ByteArray} {nL dp n0 n1 pc : Nat} (h : qOk C w RX4 cc nL dp n0 n1) (d : decode cc pc = .ok (.invokevirtual 103, 3)) : qCallOk C w nL dp n0 n1 pc 3 1 yX4_askOf (.code yX4_askOf cX4_askOf 3 (some .int)) := kindV h d ml_X4_103 im_X4_askOf se_X4_askOf in_ParentEve_Plan co_X4_askOf yk_X4_askOf (by decide)
theorem im_X4_isLaid : Jvm.Cond.instanceMethod yX4_isLaid ∈ qTw := qm4 (List.mem_of_getElem? (i := 55) (by decide +kernel)) (by decide +kernel)
theorem se_X4_isLaid : Jvm.Cond.selects yX4_isLaid.cls yX4_isLaid yX4_isLaid ∈ qTw := qm4 (List.mem_of_getElem? (i := 56) (by decide +kernel)) (by decide +kernel)
theorem co_X4_isLaid : Jvm.Cond.code yX4_isLaid cX4_isLaid 2 (some .boolean) ∈ qTw := qm4 (List.mem_of_getElem? (i := 57) (by decide +kernel)) (by decide +kernel)
theorem yk_X4_isLaid : qYk yX4_isLaid 1 := ⟨⟨by decide +kernel, by decide +kernel⟩, by decide +kernel⟩
theorem ml_X4_106 : Jvm.Cond.methodLink RX4 106 yX4_isLaid ∈ qTw := qm4 (List.mem_of_getElem? (i := 79) (by decide +kernel)) (by decide +kernel)
theorem kd_X4_106 {C : qCx} {w : qWp} {cc : ByteArray} {nL dp n0 n1 pc : Nat} (h : qOk C w RX4 cc nL dp n0 n1) (d : decode cc pc = .ok (.invokevirtual 106, 3)) : qCallOk C w nL dp n0 n1 pc 2 1 yX4_isLaid (.code yX4_isLaid cX4_isLaid 2 (some .boolean)) := kindV h d ml_X4_106 im_X4_isLaid se_X4_isLaid in_ParentEve_Plan co_X4_isLaid yk_X4_isLaid (by decide)
theorem im_X3_walkSlots : Jvm.Cond.instanceMethod yX3_walkSlots ∈ qTw := qm4 (List.mem_of_getElem? (i := 81) (by decide +kernel)) (by decide +kernel)
theorem se_X3_walkSlots : Jvm.Cond.selects yX3_walkSlots.cls yX3_walkSlots yX3_walkSlots ∈ qTw := qm4 (List.mem_of_getElem? (i := 82) (by decide +kernel)) (by decide +kernel)
theorem co_X3_walkSlots : Jvm.Cond.code yX3_walkSlots cX3_walkSlots 3 (some .int) ∈ qTw := qm4 (List.mem_of_getElem? (i := 83) (by decide +kernel)) (by decide +kernel)
theorem yk_X3_walkSlots : qYk yX3_walkSlots 2 := ⟨⟨by decide +kernel, by decide +kernel⟩, by decide +kernel⟩
theorem ml_X4_110 : Jvm.Cond.methodLink RX4 110 yX3_walkSlots ∈ qTw := qm4 (List.mem_of_getElem? (i := 80) (by decide +kernel)) (by decide +kernel)
theorem kd_X4_110 {C : qCx} {w : qWp} {cc : ByteArray} {nL dp n0 n1 pc : Nat} (h : qOk C w RX4 cc nL dp n0 n1) (d : decode cc pc = .ok (.invokevirtual 110, 3)) : qCallOk C w nL dp n0 n1 pc 3 1 yX3_walkSlots (.code yX3_walkSlots cX3_walkSlots 3 (some .int)) := kindV h d ml_X4_110 im_X3_walkSlots se_X3_walkSlots in_ParentEve_People co_X3_walkSlots yk_X3_walkSlots (by decide)
theorem im_X11_slotsFrom : Jvm.Cond.static yX11_slotsFrom ∈ qTw := qm3 (List.mem_of_getElem? (i := 226) (by decide +kernel)) (by decide +kernel)
theorem in_ParentEve : Jvm.Cond.initialized "ParentEve" ∈ qTw := qm1 (List.mem_of_getElem? (i := 1) (by decide +kernel)) (by decide +kernel)
theorem co_X11_slotsFrom : Jvm.Cond.code yX11_slotsFrom cX11_slotsFrom 4 (some .int) ∈ qTw := qm3 (List.mem_of_getElem? (i := 227) (by decide +kernel)) (by decide +kernel)
theorem yk_X11_slotsFrom : qYk yX11_slotsFrom 2 := ⟨⟨by decide +kernel, by decide +kernel⟩, by decide +kernel⟩
theorem ml_X4_113 : Jvm.Cond.methodLinkNest RX4 113 yX11_slotsFrom "ParentEve" ∈ qTw := qm4 (List.mem_of_getElem? (i := 84) (by decide +kernel)) (by decide +kernel)
theorem kd_X4_113 {C : qCx} {w : qWp} {cc : ByteArray} {nL dp n0 n1 pc : Nat} (h : qOk C w RX4 cc nL dp n0 n1) (d : decode cc pc = .ok (.invokestatic 113, 3)) : qCallOk C w nL dp n0 n1 pc 2 0 yX11_slotsFrom (.code yX11_slotsFrom cX11_slotsFrom 4 (some .int)) := kindSN h d ml_X4_113 im_X11_slotsFrom in_ParentEve co_X11_slotsFrom yk_X11_slotsFrom (by decide)
theorem dX4_tooNearForWalks_0 : decode cX4_tooNearForWalks 0 = .ok (.iconst 0, 1) := by decide +kernel
theorem dX4_tooNearForWalks_1 : decode cX4_tooNearForWalks 1 = .ok (.istore_n 3, 1) := by decide +kernel
theorem dX4_tooNearForWalks_2 : decode cX4_tooNearForWalks 2 = .ok (.aload_n 0, 1) := by decide +kernel
theorem dX4_tooNearForWalks_3 : decode cX4_tooNearForWalks 3 = .ok (.getfield 31, 3) := by decide +kernel
theorem dX4_tooNearForWalks_6 : decode cX4_tooNearForWalks 6 = .ok (.iload_n 1, 1) := by decide +kernel
theorem dX4_tooNearForWalks_7 : decode cX4_tooNearForWalks 7 = .ok (.iaload, 1) := by decide +kernel
theorem dX4_tooNearForWalks_8 : decode cX4_tooNearForWalks 8 = .ok (.ifCond .ne 5, 3) := by decide +kernel
theorem dX4_tooNearForWalks_11 : decode cX4_tooNearForWalks 11 = .ok (.iload_n 3, 1) := by decide +kernel
theorem dX4_tooNearForWalks_12 : decode cX4_tooNearForWalks 12 = .ok (.ireturn, 1) := by decide +kernel
theorem dX4_tooNearForWalks_13 : decode cX4_tooNearForWalks 13 = .ok (.iconst 0, 1) := by decide +kernel
theorem dX4_tooNearForWalks_14 : decode cX4_tooNearForWalks 14 = .ok (.istore 4, 2) := by decide +kernel
theorem dX4_tooNearForWalks_16 : decode cX4_tooNearForWalks 16 = .ok (.iload 4, 2) := by decide +kernel
theorem dX4_tooNearForWalks_18 : decode cX4_tooNearForWalks 18 = .ok (.bipush 10, 2) := by decide +kernel
theorem dX4_tooNearForWalks_20 : decode cX4_tooNearForWalks 20 = .ok (.if_icmp .ge 71, 3) := by decide +kernel
theorem dX4_tooNearForWalks_23 : decode cX4_tooNearForWalks 23 = .ok (.aload_n 0, 1) := by decide +kernel
theorem dX4_tooNearForWalks_24 : decode cX4_tooNearForWalks 24 = .ok (.iload_n 1, 1) := by decide +kernel
theorem dX4_tooNearForWalks_25 : decode cX4_tooNearForWalks 25 = .ok (.iload 4, 2) := by decide +kernel
theorem dX4_tooNearForWalks_27 : decode cX4_tooNearForWalks 27 = .ok (.invokevirtual 103, 3) := by decide +kernel
theorem dX4_tooNearForWalks_30 : decode cX4_tooNearForWalks 30 = .ok (.istore 5, 2) := by decide +kernel
theorem dX4_tooNearForWalks_32 : decode cX4_tooNearForWalks 32 = .ok (.iload 5, 2) := by decide +kernel
theorem dX4_tooNearForWalks_34 : decode cX4_tooNearForWalks 34 = .ok (.iconst (-1), 1) := by decide +kernel
theorem dX4_tooNearForWalks_35 : decode cX4_tooNearForWalks 35 = .ok (.if_icmp .eq 50, 3) := by decide +kernel
theorem dX4_tooNearForWalks_38 : decode cX4_tooNearForWalks 38 = .ok (.aload_n 0, 1) := by decide +kernel
theorem dX4_tooNearForWalks_39 : decode cX4_tooNearForWalks 39 = .ok (.iload 5, 2) := by decide +kernel
theorem dX4_tooNearForWalks_41 : decode cX4_tooNearForWalks 41 = .ok (.invokevirtual 106, 3) := by decide +kernel
theorem dX4_tooNearForWalks_44 : decode cX4_tooNearForWalks 44 = .ok (.ifCond .eq 41, 3) := by decide +kernel
theorem dX4_tooNearForWalks_47 : decode cX4_tooNearForWalks 47 = .ok (.aload_n 0, 1) := by decide +kernel
theorem dX4_tooNearForWalks_48 : decode cX4_tooNearForWalks 48 = .ok (.getfield 63, 3) := by decide +kernel
theorem dX4_tooNearForWalks_51 : decode cX4_tooNearForWalks 51 = .ok (.iload_n 2, 1) := by decide +kernel
theorem dX4_tooNearForWalks_52 : decode cX4_tooNearForWalks 52 = .ok (.iload 4, 2) := by decide +kernel
theorem dX4_tooNearForWalks_54 : decode cX4_tooNearForWalks 54 = .ok (.invokevirtual 110, 3) := by decide +kernel
theorem dX4_tooNearForWalks_57 : decode cX4_tooNearForWalks 57 = .ok (.istore 6, 2) := by decide +kernel
theorem dX4_tooNearForWalks_59 : decode cX4_tooNearForWalks 59 = .ok (.iload_n 3, 1) := by decide +kernel
theorem dX4_tooNearForWalks_60 : decode cX4_tooNearForWalks 60 = .ok (.aload_n 0, 1) := by decide +kernel
theorem dX4_tooNearForWalks_61 : decode cX4_tooNearForWalks 61 = .ok (.getfield 22, 3) := by decide +kernel
theorem dX4_tooNearForWalks_64 : decode cX4_tooNearForWalks 64 = .ok (.iload 5, 2) := by decide +kernel
theorem dX4_tooNearForWalks_66 : decode cX4_tooNearForWalks 66 = .ok (.iaload, 1) := by decide +kernel
theorem dX4_tooNearForWalks_67 : decode cX4_tooNearForWalks 67 = .ok (.iload 6, 2) := by decide +kernel
theorem dX4_tooNearForWalks_69 : decode cX4_tooNearForWalks 69 = .ok (.isub, 1) := by decide +kernel
theorem dX4_tooNearForWalks_70 : decode cX4_tooNearForWalks 70 = .ok (.aload_n 0, 1) := by decide +kernel
theorem dX4_tooNearForWalks_71 : decode cX4_tooNearForWalks 71 = .ok (.getfield 22, 3) := by decide +kernel
theorem dX4_tooNearForWalks_74 : decode cX4_tooNearForWalks 74 = .ok (.iload 5, 2) := by decide +kernel
theorem dX4_tooNearForWalks_76 : decode cX4_tooNearForWalks 76 = .ok (.iaload, 1) := by decide +kernel
theorem dX4_tooNearForWalks_77 : decode cX4_tooNearForWalks 77 = .ok (.iload 6, 2) := by decide +kernel
theorem dX4_tooNearForWalks_79 : decode cX4_tooNearForWalks 79 = .ok (.iadd, 1) := by decide +kernel
theorem dX4_tooNearForWalks_80 : decode cX4_tooNearForWalks 80 = .ok (.invokestatic 113, 3) := by decide +kernel
theorem dX4_tooNearForWalks_83 : decode cX4_tooNearForWalks 83 = .ok (.ior, 1) := by decide +kernel
theorem dX4_tooNearForWalks_84 : decode cX4_tooNearForWalks 84 = .ok (.istore_n 3, 1) := by decide +kernel
theorem dX4_tooNearForWalks_85 : decode cX4_tooNearForWalks 85 = .ok (.iinc 4 1, 3) := by decide +kernel
theorem dX4_tooNearForWalks_88 : decode cX4_tooNearForWalks 88 = .ok (.goto (-72), 3) := by decide +kernel
theorem dX4_tooNearForWalks_91 : decode cX4_tooNearForWalks 91 = .ok (.iload_n 3, 1) := by decide +kernel
theorem dX4_tooNearForWalks_92 : decode cX4_tooNearForWalks 92 = .ok (.ireturn, 1) := by decide +kernel
noncomputable def tX4_tooNearForWalks_48 (j11 : qT (Int32 × qM)) : qT (Int32 × qM) :=
  oInc 4 (1 : Int32) (j11)
noncomputable def wX4_tooNearForWalks_48 (k : Int32 → Int32 → Int32 → Int32 → qM → Option (Int32 × qM)) : qT (Int32 × qM) := fun lo st m => match lo, st with
  | [some (.ref 58), some (.int a1), some (.int a2), some (.int a3), some (.int a4), _, _], [] => k a1 a2 a3 a4 m
  | _, _ => none
noncomputable def wX4_tooNearForWalks_11 (k : Int32 → Int32 → Int32 → Int32 → qM → Option (Int32 × qM)) : qT (Int32 × qM) := fun lo st m => match lo, st with
  | [some (.ref 58), some (.int a1), some (.int a2), some (.int a3), some (.int a4), _, _], [] => k a1 a2 a3 a4 m
  | _, _ => none
set_option maxRecDepth 20000 in
theorem sX4_tooNearForWalks_48 {C : qCx} {w : qWp} (h : qOk C w RX4 cX4_tooNearForWalks 7 2 155 155) (hm : qMt C (some .int)) (hx : qNx C) {j11 : qT (Int32 × qM)} (k11 : qSnd C w 7 155 (qQf C w 155 155 jI) qfin 155 16 j11) : qSnd C w 7 155 (qQf C w 155 155 jI) qfin 155 85 (tX4_tooNearForWalks_48 j11) :=
  cInc (pc := 85) h dX4_tooNearForWalks_85 rfl (jGo (pc := 88) h dX4_tooNearForWalks_88 rfl (k11))
set_option maxRecDepth 20000 in
theorem lX4_tooNearForWalks_48 (k11 : Int32 → Int32 → Int32 → Int32 → qM → Option (Int32 × qM)) (a1 : Int32) (a2 : Int32) (a3 : Int32) (a4 : Int32) (m : qM) : tX4_tooNearForWalks_48 (wX4_tooNearForWalks_11 k11) [some (.ref 58), some (.int a1), some (.int a2), some (.int a3), some (.int a4), none, none] [] m = fX4_tooNearForWalks_48 k11 a1 a2 a3 a4 m := rfl
theorem bX4_tooNearForWalks_48 {C : qCx} {w : qWp} (h : qOk C w RX4 cX4_tooNearForWalks 7 2 155 155) (hm : qMt C (some .int)) (hx : qNx C) {k11 : Int32 → Int32 → Int32 → Int32 → qM → Option (Int32 × qM)} (h11 : qSnd C w 7 155 (qQf C w 155 155 jI) qfin 155 16 (wX4_tooNearForWalks_11 k11)) : qSnd C w 7 155 (qQf C w 155 155 jI) qfin 155 85 (wX4_tooNearForWalks_48 (fX4_tooNearForWalks_48 k11)) :=
  qSnd_of (fun lo st m x hr0 => by
    unfold wX4_tooNearForWalks_48 at hr0
    split at hr0
    · exact ⟨_, (qsub_e (qsub_e (qsub_e (qsub_e (qsub_e (qsub_n (qsub_n qsub_nil))))))), (lX4_tooNearForWalks_48 _ _ _ _ _ _).trans hr0⟩
    · cases hr0) (sX4_tooNearForWalks_48 h hm hx h11)
noncomputable def tX4_tooNearForWalks_11 (j48 : qT (Int32 × qM)) : qT (Int32 × qM) :=
  oLi 4 (oC (.int (10 : Int32)) (oCGe (oLi 3 (eI)) (oLa 0 (oLi 1 (oLi 4 (oCi GX4_askOf 3 (oSi 5 (oLi 5 (oC (.int (-1 : Int32)) (oCEq (j48) (oLa 0 (oLi 5 (oCi GX4_isLaid 2 (oEq (j48) (oLa 0 (oGf 58 1 47 (oLi 2 (oLi 4 (oCi GX3_walkSlots 3 (oSi 6 (oLi 3 (oLa 0 (oGf 58 5 62 (oLi 5 (oAi 62 40 (oLi 6 (o2 (· - ·) (oLa 0 (oGf 58 5 62 (oLi 5 (oAi 62 40 (oLi 6 (o2 (· + ·) (oCi GX11_slotsFrom 2 (o2 (· ||| ·) (oSi 3 (j48)))))))))))))))))))))))))))))))))))))
set_option maxRecDepth 20000 in
theorem sX4_tooNearForWalks_11 {C : qCx} {w : qWp} (h : qOk C w RX4 cX4_tooNearForWalks 7 2 155 155) (hm : qMt C (some .int)) (hx : qNx C) {j48 : qT (Int32 × qM)} (k48 : qSnd C w 7 155 (qQf C w 155 155 jI) qfin 155 85 j48) : qSnd C w 7 155 (qQf C w 155 155 jI) qfin 155 16 (tX4_tooNearForWalks_11 j48) :=
  cLI (pc := 16) h dX4_tooNearForWalks_16 (cB (pc := 18) h dX4_tooNearForWalks_18 rfl (jCGe (pc := 20) h dX4_tooNearForWalks_20 rfl (cLi (pc := 91) h dX4_tooNearForWalks_91 rfl (zI (pc := 92) h hm (Nat.le_refl _) dX4_tooNearForWalks_92)) (cLa (pc := 23) h dX4_tooNearForWalks_23 rfl (cLi (pc := 24) h dX4_tooNearForWalks_24 rfl (cLI (pc := 25) h dX4_tooNearForWalks_25 (kCi (pc := 27) h (kd_X4_103 h dX4_tooNearForWalks_27) spX4_askOf (by decide) (by decide) (by decide) (by decide) (cSI (pc := 30) h dX4_tooNearForWalks_30 (cLI (pc := 32) h dX4_tooNearForWalks_32 (cC (pc := 34) h dX4_tooNearForWalks_34 rfl (jCEq (pc := 35) h dX4_tooNearForWalks_35 rfl (k48) (cLa (pc := 38) h dX4_tooNearForWalks_38 rfl (cLI (pc := 39) h dX4_tooNearForWalks_39 (kCi (pc := 41) h (kd_X4_106 h dX4_tooNearForWalks_41) spX4_isLaid (by decide) (by decide) (by decide) (by decide) (jEq (pc := 44) h dX4_tooNearForWalks_44 rfl (k48) (cLa (pc := 47) h dX4_tooNearForWalks_47 rfl (gGf (pc := 48) h dX4_tooNearForWalks_48 ff_X4_63_58 (Nat.le_of_ble_eq_true rfl) (Nat.le_of_ble_eq_true rfl) rfl (cLi (pc := 51) h dX4_tooNearForWalks_51 rfl (cLI (pc := 52) h dX4_tooNearForWalks_52 (kCi (pc := 54) h (kd_X4_110 h dX4_tooNearForWalks_54) spX3_walkSlots (by decide) (by decide) (by decide) (by decide) (cSI (pc := 57) h dX4_tooNearForWalks_57 (cLi (pc := 59) h dX4_tooNearForWalks_59 rfl (cLa (pc := 60) h dX4_tooNearForWalks_60 rfl (gGf (pc := 61) h dX4_tooNearForWalks_61 ff_X4_22_58 (Nat.le_of_ble_eq_true rfl) (Nat.le_of_ble_eq_true rfl) rfl (cLI (pc := 64) h dX4_tooNearForWalks_64 (rAi (pc := 66) h dX4_tooNearForWalks_66 rfl (Nat.le_of_ble_eq_true rfl) (Nat.le_of_ble_eq_true rfl) (cLI (pc := 67) h dX4_tooNearForWalks_67 (aSub (pc := 69) h dX4_tooNearForWalks_69 (cLa (pc := 70) h dX4_tooNearForWalks_70 rfl (gGf (pc := 71) h dX4_tooNearForWalks_71 ff_X4_22_58 (Nat.le_of_ble_eq_true rfl) (Nat.le_of_ble_eq_true rfl) rfl (cLI (pc := 74) h dX4_tooNearForWalks_74 (rAi (pc := 76) h dX4_tooNearForWalks_76 rfl (Nat.le_of_ble_eq_true rfl) (Nat.le_of_ble_eq_true rfl) (cLI (pc := 77) h dX4_tooNearForWalks_77 (aAdd (pc := 79) h dX4_tooNearForWalks_79 (kCi (pc := 80) h (kd_X4_113 h dX4_tooNearForWalks_80) spX11_slotsFrom (by decide) (by decide) (by decide) (by decide) (aOr (pc := 83) h dX4_tooNearForWalks_83 (cSi (pc := 84) h dX4_tooNearForWalks_84 rfl (k48)))))))))))))))))))))))))))))))))))))
set_option maxRecDepth 20000 in
theorem lX4_tooNearForWalks_11 (n : Nat) (a1 : Int32) (a2 : Int32) (a3 : Int32) (a4 : Int32) (m : qM) : tX4_tooNearForWalks_11 (wX4_tooNearForWalks_48 (fX4_tooNearForWalks_48 (fX4_tooNearForWalks_11 n))) [some (.ref 58), some (.int a1), some (.int a2), some (.int a3), some (.int a4), none, none] [] m = fX4_tooNearForWalks_11 (n + 1) a1 a2 a3 a4 m := rfl
theorem bX4_tooNearForWalks_11 {C : qCx} {w : qWp} (h : qOk C w RX4 cX4_tooNearForWalks 7 2 155 155) (hm : qMt C (some .int)) (hx : qNx C) : ∀ n : Nat, qSnd C w 7 155 (qQf C w 155 155 jI) qfin 155 16 (wX4_tooNearForWalks_11 (fX4_tooNearForWalks_11 n))
  | 0 => qSnd_of0 (fun lo st m x hr0 => by
    unfold wX4_tooNearForWalks_11 at hr0
    split at hr0
    · cases hr0
    · cases hr0)
  | n + 1 => by
    have ih := bX4_tooNearForWalks_11 h hm hx n
    exact qSnd_of (fun lo st m x hr0 => by
    unfold wX4_tooNearForWalks_11 at hr0
    split at hr0
    · exact ⟨_, (qsub_e (qsub_e (qsub_e (qsub_e (qsub_e (qsub_n (qsub_n qsub_nil))))))), (lX4_tooNearForWalks_11 n _ _ _ _ _).trans hr0⟩
    · cases hr0) (sX4_tooNearForWalks_11 h hm hx (bX4_tooNearForWalks_48 h hm hx ih))
noncomputable def tX4_tooNearForWalks_0 (j11 : qT (Int32 × qM)) : qT (Int32 × qM) :=
  oC (.int (0 : Int32)) (oSi 3 (oLa 0 (oGf 58 8 65 (oLi 1 (oAi 65 15 (oEq (oLi 3 (eI)) (oC (.int (0 : Int32)) (oSi 4 (j11)))))))))
set_option maxRecDepth 20000 in
theorem sX4_tooNearForWalks_0 {C : qCx} {w : qWp} (h : qOk C w RX4 cX4_tooNearForWalks 7 2 155 155) (hm : qMt C (some .int)) (hx : qNx C) {j11 : qT (Int32 × qM)} (k11 : qSnd C w 7 155 (qQf C w 155 155 jI) qfin 155 16 j11) : qSnd C w 7 155 (qQf C w 155 155 jI) qfin 155 0 (tX4_tooNearForWalks_0 j11) :=
  cC (pc := 0) h dX4_tooNearForWalks_0 rfl (cSi (pc := 1) h dX4_tooNearForWalks_1 rfl (cLa (pc := 2) h dX4_tooNearForWalks_2 rfl (gGf (pc := 3) h dX4_tooNearForWalks_3 ff_X4_31_58 (Nat.le_of_ble_eq_true rfl) (Nat.le_of_ble_eq_true rfl) rfl (cLi (pc := 6) h dX4_tooNearForWalks_6 rfl (rAi (pc := 7) h dX4_tooNearForWalks_7 rfl (Nat.le_of_ble_eq_true rfl) (Nat.le_of_ble_eq_true rfl) (jNe (pc := 8) h dX4_tooNearForWalks_8 rfl (cC (pc := 13) h dX4_tooNearForWalks_13 rfl (cSI (pc := 14) h dX4_tooNearForWalks_14 (k11))) (cLi (pc := 11) h dX4_tooNearForWalks_11 rfl (zI (pc := 12) h hm (Nat.le_refl _) dX4_tooNearForWalks_12))))))))
set_option maxRecDepth 20000 in
theorem lX4_tooNearForWalks_0 (a1 : Int32) (a2 : Int32) (m : qM) : tX4_tooNearForWalks_0 (wX4_tooNearForWalks_11 (fX4_tooNearForWalks_11 FU)) [some (.ref 58), some (.int a1), some (.int a2), none, none, none, none] [] m = fX4_tooNearForWalks_0 a1 a2 m := rfl
noncomputable def GX4_tooNearForWalks : qG Int32 := fun av m => match av with
  | [.ref 58, .int a1, .int a2] => fX4_tooNearForWalks a1 a2 m
  | _ => none
theorem spX4_tooNearForWalks : qSpI yX4_tooNearForWalks (.code yX4_tooNearForWalks cX4_tooNearForWalks 7 (some .int)) 2 qfin 155 155 1 GX4_tooNearForWalks := by
  intro av m x m' hG
  unfold GX4_tooNearForWalks at hG
  split at hG
  · rename_i a1 a2
    rw [fX4_tooNearForWalks_d] at hG
    exact ⟨qmeet (J := jI) (r := (x, m')) (av := [.ref 58, .int a1, .int a2]) (by decide +kernel) (Nat.le_of_ble_eq_true rfl) (fun C w h hm hx hn => sX4_tooNearForWalks_0 h hm hx (bX4_tooNearForWalks_11 h hm hx FU)) ((lX4_tooNearForWalks_0 _ _ _).trans hG) (Nat.le_of_ble_eq_true rfl), Or.inl ⟨58, _, 4, _, _, rfl, by decide, rfl, qCk_4, rfl⟩⟩
  · cases hG
theorem dX3_apartFrom_0 : decode cX3_apartFrom 0 = .ok (.aload_n 0, 1) := by decide +kernel
theorem dX3_apartFrom_1 : decode cX3_apartFrom 1 = .ok (.getfield 33, 3) := by decide +kernel
theorem dX3_apartFrom_4 : decode cX3_apartFrom 4 = .ok (.iload_n 1, 1) := by decide +kernel
theorem dX3_apartFrom_5 : decode cX3_apartFrom 5 = .ok (.iaload, 1) := by decide +kernel
theorem dX3_apartFrom_6 : decode cX3_apartFrom 6 = .ok (.ireturn, 1) := by decide +kernel
noncomputable def tX3_apartFrom_0 : qT (Int32 × qM) :=
  oLa 0 (oGf 47 8 55 (oLi 1 (oAi 55 15 (eI))))
set_option maxRecDepth 20000 in
theorem sX3_apartFrom_0 {C : qCx} {w : qWp} (h : qOk C w RX3 cX3_apartFrom 2 0 155 155) (hm : qMt C (some .int)) (hx : qNx C) : qSnd C w 2 155 (qQf C w 155 155 jI) qfin 155 0 (tX3_apartFrom_0) :=
  cLa (pc := 0) h dX3_apartFrom_0 rfl (gGf (pc := 1) h dX3_apartFrom_1 ff_X3_33_47 (Nat.le_of_ble_eq_true rfl) (Nat.le_of_ble_eq_true rfl) rfl (cLi (pc := 4) h dX3_apartFrom_4 rfl (rAi (pc := 5) h dX3_apartFrom_5 rfl (Nat.le_of_ble_eq_true rfl) (Nat.le_of_ble_eq_true rfl) (zI (pc := 6) h hm (Nat.le_refl _) dX3_apartFrom_6))))
set_option maxRecDepth 20000 in
theorem lX3_apartFrom_0 (a1 : Int32) (m : qM) : tX3_apartFrom_0 [some (.ref 47), some (.int a1)] [] m = fX3_apartFrom_0 a1 m := rfl
noncomputable def GX3_apartFrom : qG Int32 := fun av m => match av with
  | [.ref 47, .int a1] => fX3_apartFrom a1 m
  | _ => none
theorem spX3_apartFrom : qSpI yX3_apartFrom (.code yX3_apartFrom cX3_apartFrom 2 (some .int)) 0 qfin 155 155 1 GX3_apartFrom := by
  intro av m x m' hG
  unfold GX3_apartFrom at hG
  split at hG
  · rename_i a1
    rw [fX3_apartFrom_d] at hG
    exact ⟨qmeet (J := jI) (r := (x, m')) (av := [.ref 47, .int a1]) (by decide +kernel) (Nat.le_of_ble_eq_true rfl) (fun C w h hm hx hn => sX3_apartFrom_0 h hm hx) ((lX3_apartFrom_0 _ _).trans hG) (Nat.le_of_ble_eq_true rfl), Or.inl ⟨47, _, 3, _, _, rfl, by decide, rfl, qCk_3, rfl⟩⟩
  · cases hG
theorem dX11_has_0 : decode cX11_has 0 = .ok (.iload_n 0, 1) := by decide +kernel
theorem dX11_has_1 : decode cX11_has 1 = .ok (.iload_n 1, 1) := by decide +kernel
theorem dX11_has_2 : decode cX11_has 2 = .ok (.ishr, 1) := by decide +kernel
theorem dX11_has_3 : decode cX11_has 3 = .ok (.iconst 1, 1) := by decide +kernel
theorem dX11_has_4 : decode cX11_has 4 = .ok (.iand, 1) := by decide +kernel
theorem dX11_has_5 : decode cX11_has 5 = .ok (.ifCond .eq 7, 3) := by decide +kernel
theorem dX11_has_8 : decode cX11_has 8 = .ok (.iconst 1, 1) := by decide +kernel
theorem dX11_has_9 : decode cX11_has 9 = .ok (.goto 4, 3) := by decide +kernel
theorem dX11_has_12 : decode cX11_has 12 = .ok (.iconst 0, 1) := by decide +kernel
theorem dX11_has_13 : decode cX11_has 13 = .ok (.ireturn, 1) := by decide +kernel
noncomputable def tX11_has_9 : qT (Int32 × qM) :=
  eZ
noncomputable def wX11_has_9 (k : Int32 → qM → Option (Int32 × qM)) : qT (Int32 × qM) := fun lo st m => match lo, st with
  | [_, _], [.int s0] => k s0 m
  | _, _ => none
set_option maxRecDepth 20000 in
theorem sX11_has_9 {C : qCx} {w : qWp} (h : qOk C w RX11 cX11_has 2 0 155 155) (hm : qMt C (some .boolean)) (hx : qNx C) : qSnd C w 2 155 (qQf C w 155 155 jI) qfin 155 13 (tX11_has_9) :=
  zZ (pc := 13) h hm (Nat.le_refl _) dX11_has_13
set_option maxRecDepth 20000 in
theorem lX11_has_9 (s0 : Int32) (m : qM) : tX11_has_9 [none, none] [(.int s0)] m = fX11_has_9 s0 m := rfl
theorem bX11_has_9 {C : qCx} {w : qWp} (h : qOk C w RX11 cX11_has 2 0 155 155) (hm : qMt C (some .boolean)) (hx : qNx C) : qSnd C w 2 155 (qQf C w 155 155 jI) qfin 155 13 (wX11_has_9 fX11_has_9) :=
  qSnd_of (fun lo st m x hr0 => by
    unfold wX11_has_9 at hr0
    split at hr0
    · exact ⟨_, (qsub_n (qsub_n qsub_nil)), (lX11_has_9 _ _).trans hr0⟩
    · cases hr0) (sX11_has_9 h hm hx)
noncomputable def tX11_has_0 (j9 : qT (Int32 × qM)) : qT (Int32 × qM) :=
  oLi 0 (oLi 1 (o2 (fun x y => x >>> (y &&& 31)) (oC (.int (1 : Int32)) (o2 (· &&& ·) (oEq (oC (.int (0 : Int32)) (j9)) (oC (.int (1 : Int32)) (j9)))))))
set_option maxRecDepth 20000 in
theorem sX11_has_0 {C : qCx} {w : qWp} (h : qOk C w RX11 cX11_has 2 0 155 155) (hm : qMt C (some .boolean)) (hx : qNx C) {j9 : qT (Int32 × qM)} (k9 : qSnd C w 2 155 (qQf C w 155 155 jI) qfin 155 13 j9) : qSnd C w 2 155 (qQf C w 155 155 jI) qfin 155 0 (tX11_has_0 j9) :=
  cLi (pc := 0) h dX11_has_0 rfl (cLi (pc := 1) h dX11_has_1 rfl (aShr (pc := 2) h dX11_has_2 (cC (pc := 3) h dX11_has_3 rfl (aAnd (pc := 4) h dX11_has_4 (jEq (pc := 5) h dX11_has_5 rfl (cC (pc := 12) h dX11_has_12 rfl (k9)) (cC (pc := 8) h dX11_has_8 rfl (jGo (pc := 9) h dX11_has_9 rfl (k9))))))))
set_option maxRecDepth 20000 in
theorem lX11_has_0 (a0 : Int32) (a1 : Int32) (m : qM) : tX11_has_0 (wX11_has_9 fX11_has_9) [some (.int a0), some (.int a1)] [] m = fX11_has_0 a0 a1 m := rfl
noncomputable def GX11_has : qG Int32 := fun av m => match av with
  | [.int a0, .int a1] => fX11_has a0 a1 m
  | _ => none
theorem spX11_has : qSpI yX11_has (.code yX11_has cX11_has 2 (some .boolean)) 0 qfin 155 155 0 GX11_has := by
  intro av m x m' hG
  unfold GX11_has at hG
  split at hG
  · rename_i a0 a1
    rw [fX11_has_d] at hG
    exact ⟨qmeet (J := jI) (r := (x, m')) (av := [.int a0, .int a1]) (by decide +kernel) (Nat.le_of_ble_eq_true rfl) (fun C w h hm hx hn => sX11_has_0 h hm hx (bX11_has_9 h hm hx)) ((lX11_has_0 _ _ _).trans hG) (Nat.le_of_ble_eq_true rfl), trivial⟩
  · cases hG
theorem dX11_within_0 : decode cX11_within 0 = .ok (.iload_n 0, 1) := by decide +kernel
theorem dX11_within_1 : decode cX11_within 1 = .ok (.iload_n 1, 1) := by decide +kernel
theorem dX11_within_2 : decode cX11_within 2 = .ok (.if_icmp .lt 12, 3) := by decide +kernel
theorem dX11_within_5 : decode cX11_within 5 = .ok (.iload_n 0, 1) := by decide +kernel
theorem dX11_within_6 : decode cX11_within 6 = .ok (.iload_n 2, 1) := by decide +kernel
theorem dX11_within_7 : decode cX11_within 7 = .ok (.if_icmp .gt 7, 3) := by decide +kernel
theorem dX11_within_10 : decode cX11_within 10 = .ok (.iconst 1, 1) := by decide +kernel
theorem dX11_within_11 : decode cX11_within 11 = .ok (.goto 4, 3) := by decide +kernel
theorem dX11_within_14 : decode cX11_within 14 = .ok (.iconst 0, 1) := by decide +kernel
theorem dX11_within_15 : decode cX11_within 15 = .ok (.ireturn, 1) := by decide +kernel
noncomputable def tX11_within_9 : qT (Int32 × qM) :=
  eZ
noncomputable def wX11_within_9 (k : Int32 → qM → Option (Int32 × qM)) : qT (Int32 × qM) := fun lo st m => match lo, st with
  | [_, _, _], [.int s0] => k s0 m
  | _, _ => none
set_option maxRecDepth 20000 in
theorem sX11_within_9 {C : qCx} {w : qWp} (h : qOk C w RX11 cX11_within 3 0 155 155) (hm : qMt C (some .boolean)) (hx : qNx C) : qSnd C w 3 155 (qQf C w 155 155 jI) qfin 155 15 (tX11_within_9) :=
  zZ (pc := 15) h hm (Nat.le_refl _) dX11_within_15
set_option maxRecDepth 20000 in
theorem lX11_within_9 (s0 : Int32) (m : qM) : tX11_within_9 [none, none, none] [(.int s0)] m = fX11_within_9 s0 m := rfl
theorem bX11_within_9 {C : qCx} {w : qWp} (h : qOk C w RX11 cX11_within 3 0 155 155) (hm : qMt C (some .boolean)) (hx : qNx C) : qSnd C w 3 155 (qQf C w 155 155 jI) qfin 155 15 (wX11_within_9 fX11_within_9) :=
  qSnd_of (fun lo st m x hr0 => by
    unfold wX11_within_9 at hr0
    split at hr0
    · exact ⟨_, (qsub_n (qsub_n (qsub_n qsub_nil))), (lX11_within_9 _ _).trans hr0⟩
    · cases hr0) (sX11_within_9 h hm hx)
noncomputable def tX11_within_8 (j9 : qT (Int32 × qM)) : qT (Int32 × qM) :=
  oC (.int (0 : Int32)) (j9)
noncomputable def wX11_within_8 (k : qM → Option (Int32 × qM)) : qT (Int32 × qM) := fun lo st m => match lo, st with
  | [_, _, _], [] => k m
  | _, _ => none
set_option maxRecDepth 20000 in
theorem sX11_within_8 {C : qCx} {w : qWp} (h : qOk C w RX11 cX11_within 3 0 155 155) (hm : qMt C (some .boolean)) (hx : qNx C) {j9 : qT (Int32 × qM)} (k9 : qSnd C w 3 155 (qQf C w 155 155 jI) qfin 155 15 j9) : qSnd C w 3 155 (qQf C w 155 155 jI) qfin 155 14 (tX11_within_8 j9) :=
  cC (pc := 14) h dX11_within_14 rfl (k9)
set_option maxRecDepth 20000 in
theorem lX11_within_8 (m : qM) : tX11_within_8 (wX11_within_9 fX11_within_9) [none, none, none] [] m = fX11_within_8 m := rfl
theorem bX11_within_8 {C : qCx} {w : qWp} (h : qOk C w RX11 cX11_within 3 0 155 155) (hm : qMt C (some .boolean)) (hx : qNx C) : qSnd C w 3 155 (qQf C w 155 155 jI) qfin 155 14 (wX11_within_8 fX11_within_8) :=
  qSnd_of (fun lo st m x hr0 => by
    unfold wX11_within_8 at hr0
    split at hr0
    · exact ⟨_, (qsub_n (qsub_n (qsub_n qsub_nil))), (lX11_within_8 _).trans hr0⟩
    · cases hr0) (sX11_within_8 h hm hx (bX11_within_9 h hm hx))
noncomputable def tX11_within_0 (j8 : qT (Int32 × qM)) (j9 : qT (Int32 × qM)) : qT (Int32 × qM) :=
  oLi 0 (oLi 1 (oCLt (j8) (oLi 0 (oLi 2 (oCGt (j8) (oC (.int (1 : Int32)) (j9)))))))
set_option maxRecDepth 20000 in
theorem sX11_within_0 {C : qCx} {w : qWp} (h : qOk C w RX11 cX11_within 3 0 155 155) (hm : qMt C (some .boolean)) (hx : qNx C) {j8 : qT (Int32 × qM)} {j9 : qT (Int32 × qM)} (k8 : qSnd C w 3 155 (qQf C w 155 155 jI) qfin 155 14 j8) (k9 : qSnd C w 3 155 (qQf C w 155 155 jI) qfin 155 15 j9) : qSnd C w 3 155 (qQf C w 155 155 jI) qfin 155 0 (tX11_within_0 j8 j9) :=
  cLi (pc := 0) h dX11_within_0 rfl (cLi (pc := 1) h dX11_within_1 rfl (jCLt (pc := 2) h dX11_within_2 rfl (k8) (cLi (pc := 5) h dX11_within_5 rfl (cLi (pc := 6) h dX11_within_6 rfl (jCGt (pc := 7) h dX11_within_7 rfl (k8) (cC (pc := 10) h dX11_within_10 rfl (jGo (pc := 11) h dX11_within_11 rfl (k9))))))))
set_option maxRecDepth 20000 in
theorem lX11_within_0 (a0 : Int32) (a1 : Int32) (a2 : Int32) (m : qM) : tX11_within_0 (wX11_within_8 fX11_within_8) (wX11_within_9 fX11_within_9) [some (.int a0), some (.int a1), some (.int a2)] [] m = fX11_within_0 a0 a1 a2 m := rfl
noncomputable def GX11_within : qG Int32 := fun av m => match av with
  | [.int a0, .int a1, .int a2] => fX11_within a0 a1 a2 m
  | _ => none
theorem spX11_within : qSpI yX11_within (.code yX11_within cX11_within 3 (some .boolean)) 0 qfin 155 155 0 GX11_within := by
  intro av m x m' hG
  unfold GX11_within at hG
  split at hG
  · rename_i a0 a1 a2
    rw [fX11_within_d] at hG
    exact ⟨qmeet (J := jI) (r := (x, m')) (av := [.int a0, .int a1, .int a2]) (by decide +kernel) (Nat.le_of_ble_eq_true rfl) (fun C w h hm hx hn => sX11_within_0 h hm hx (bX11_within_8 h hm hx) (bX11_within_9 h hm hx)) ((lX11_within_0 _ _ _ _).trans hG) (Nat.le_of_ble_eq_true rfl), trivial⟩
  · cases hG
theorem im_X11_within : Jvm.Cond.static yX11_within ∈ qTw := qm2 (List.mem_of_getElem? (i := 215) (by decide +kernel)) (by decide +kernel)
theorem co_X11_within : Jvm.Cond.code yX11_within cX11_within 3 (some .boolean) ∈ qTw := qm2 (List.mem_of_getElem? (i := 216) (by decide +kernel)) (by decide +kernel)
theorem yk_X11_within : qYk yX11_within 3 := ⟨⟨by decide +kernel, by decide +kernel⟩, by decide +kernel⟩
theorem ml_X7_21 : Jvm.Cond.methodLinkNest RX7 21 yX11_within "ParentEve" ∈ qTw := qm3 (List.mem_of_getElem? (i := 90) (by decide +kernel)) (by decide +kernel)
theorem kd_X7_21 {C : qCx} {w : qWp} {cc : ByteArray} {nL dp n0 n1 pc : Nat} (h : qOk C w RX7 cc nL dp n0 n1) (d : decode cc pc = .ok (.invokestatic 21, 3)) : qCallOk C w nL dp n0 n1 pc 3 0 yX11_within (.code yX11_within cX11_within 3 (some .boolean)) := kindSN h d ml_X7_21 im_X11_within in_ParentEve co_X11_within yk_X11_within (by decide)
theorem dX7_told_0 : decode cX7_told 0 = .ok (.iload_n 1, 1) := by decide +kernel
theorem dX7_told_1 : decode cX7_told 1 = .ok (.iconst 0, 1) := by decide +kernel
theorem dX7_told_2 : decode cX7_told 2 = .ok (.iconst 5, 1) := by decide +kernel
theorem dX7_told_3 : decode cX7_told 3 = .ok (.invokestatic 21, 3) := by decide +kernel
theorem dX7_told_6 : decode cX7_told 6 = .ok (.ifCond .eq 12, 3) := by decide +kernel
theorem dX7_told_9 : decode cX7_told 9 = .ok (.aload_n 0, 1) := by decide +kernel
theorem dX7_told_10 : decode cX7_told 10 = .ok (.getfield 9, 3) := by decide +kernel
theorem dX7_told_13 : decode cX7_told 13 = .ok (.iload_n 1, 1) := by decide +kernel
theorem dX7_told_14 : decode cX7_told 14 = .ok (.iaload, 1) := by decide +kernel
theorem dX7_told_15 : decode cX7_told 15 = .ok (.goto 4, 3) := by decide +kernel
theorem dX7_told_18 : decode cX7_told 18 = .ok (.iconst 0, 1) := by decide +kernel
theorem dX7_told_19 : decode cX7_told 19 = .ok (.ireturn, 1) := by decide +kernel
noncomputable def tX7_told_11 : qT (Int32 × qM) :=
  eI
noncomputable def wX7_told_11 (k : Int32 → qM → Option (Int32 × qM)) : qT (Int32 × qM) := fun lo st m => match lo, st with
  | [_, _], [.int s0] => k s0 m
  | _, _ => none
set_option maxRecDepth 20000 in
theorem sX7_told_11 {C : qCx} {w : qWp} (h : qOk C w RX7 cX7_told 2 1 155 155) (hm : qMt C (some .int)) (hx : qNx C) : qSnd C w 2 155 (qQf C w 155 155 jI) qfin 155 19 (tX7_told_11) :=
  zI (pc := 19) h hm (Nat.le_refl _) dX7_told_19
set_option maxRecDepth 20000 in
theorem lX7_told_11 (s0 : Int32) (m : qM) : tX7_told_11 [none, none] [(.int s0)] m = fX7_told_11 s0 m := rfl
theorem bX7_told_11 {C : qCx} {w : qWp} (h : qOk C w RX7 cX7_told 2 1 155 155) (hm : qMt C (some .int)) (hx : qNx C) : qSnd C w 2 155 (qQf C w 155 155 jI) qfin 155 19 (wX7_told_11 fX7_told_11) :=
  qSnd_of (fun lo st m x hr0 => by
    unfold wX7_told_11 at hr0
    split at hr0
    · exact ⟨_, (qsub_n (qsub_n qsub_nil)), (lX7_told_11 _ _).trans hr0⟩
    · cases hr0) (sX7_told_11 h hm hx)
noncomputable def tX7_told_0 (j11 : qT (Int32 × qM)) : qT (Int32 × qM) :=
  oLi 1 (oC (.int (0 : Int32)) (oC (.int (5 : Int32)) (oCi GX11_within 3 (oEq (oC (.int (0 : Int32)) (j11)) (oLa 0 (oGf 4 0 5 (oLi 1 (oAi 5 6 (j11)))))))))
set_option maxRecDepth 20000 in
theorem sX7_told_0 {C : qCx} {w : qWp} (h : qOk C w RX7 cX7_told 2 1 155 155) (hm : qMt C (some .int)) (hx : qNx C) {j11 : qT (Int32 × qM)} (k11 : qSnd C w 2 155 (qQf C w 155 155 jI) qfin 155 19 j11) : qSnd C w 2 155 (qQf C w 155 155 jI) qfin 155 0 (tX7_told_0 j11) :=
  cLi (pc := 0) h dX7_told_0 rfl (cC (pc := 1) h dX7_told_1 rfl (cC (pc := 2) h dX7_told_2 rfl (kCi (pc := 3) h (kd_X7_21 h dX7_told_3) spX11_within (by decide) (by decide) (by decide) (by decide) (jEq (pc := 6) h dX7_told_6 rfl (cC (pc := 18) h dX7_told_18 rfl (k11)) (cLa (pc := 9) h dX7_told_9 rfl (gGf (pc := 10) h dX7_told_10 ff_X7_9_4 (Nat.le_of_ble_eq_true rfl) (Nat.le_of_ble_eq_true rfl) rfl (cLi (pc := 13) h dX7_told_13 rfl (rAi (pc := 14) h dX7_told_14 rfl (Nat.le_of_ble_eq_true rfl) (Nat.le_of_ble_eq_true rfl) (jGo (pc := 15) h dX7_told_15 rfl (k11))))))))))
set_option maxRecDepth 20000 in
theorem lX7_told_0 (a1 : Int32) (m : qM) : tX7_told_0 (wX7_told_11 fX7_told_11) [some (.ref 4), some (.int a1)] [] m = fX7_told_0 a1 m := rfl
noncomputable def GX7_told : qG Int32 := fun av m => match av with
  | [.ref 4, .int a1] => fX7_told a1 m
  | _ => none
theorem spX7_told : qSpI yX7_told (.code yX7_told cX7_told 2 (some .int)) 1 qfin 155 155 1 GX7_told := by
  intro av m x m' hG
  unfold GX7_told at hG
  split at hG
  · rename_i a1
    rw [fX7_told_d] at hG
    exact ⟨qmeet (J := jI) (r := (x, m')) (av := [.ref 4, .int a1]) (by decide +kernel) (Nat.le_of_ble_eq_true rfl) (fun C w h hm hx hn => sX7_told_0 h hm hx (bX7_told_11 h hm hx)) ((lX7_told_0 _ _).trans hG) (Nat.le_of_ble_eq_true rfl), Or.inl ⟨4, _, 7, _, _, rfl, by decide, rfl, qCk_7, rfl⟩⟩
  · cases hG
theorem im_X3_apartFrom : Jvm.Cond.instanceMethod yX3_apartFrom ∈ qTw := qm4 (List.mem_of_getElem? (i := 90) (by decide +kernel)) (by decide +kernel)
theorem se_X3_apartFrom : Jvm.Cond.selects yX3_apartFrom.cls yX3_apartFrom yX3_apartFrom ∈ qTw := qm4 (List.mem_of_getElem? (i := 91) (by decide +kernel)) (by decide +kernel)
theorem co_X3_apartFrom : Jvm.Cond.code yX3_apartFrom cX3_apartFrom 2 (some .int) ∈ qTw := qm4 (List.mem_of_getElem? (i := 92) (by decide +kernel)) (by decide +kernel)
theorem yk_X3_apartFrom : qYk yX3_apartFrom 1 := ⟨⟨by decide +kernel, by decide +kernel⟩, by decide +kernel⟩
theorem ml_X4_116 : Jvm.Cond.methodLink RX4 116 yX3_apartFrom ∈ qTw := qm4 (List.mem_of_getElem? (i := 89) (by decide +kernel)) (by decide +kernel)
theorem kd_X4_116 {C : qCx} {w : qWp} {cc : ByteArray} {nL dp n0 n1 pc : Nat} (h : qOk C w RX4 cc nL dp n0 n1) (d : decode cc pc = .ok (.invokevirtual 116, 3)) : qCallOk C w nL dp n0 n1 pc 2 1 yX3_apartFrom (.code yX3_apartFrom cX3_apartFrom 2 (some .int)) := kindV h d ml_X4_116 im_X3_apartFrom se_X3_apartFrom in_ParentEve_People co_X3_apartFrom yk_X3_apartFrom (by decide)
theorem im_X11_has : Jvm.Cond.static yX11_has ∈ qTw := qm3 (List.mem_of_getElem? (i := 96) (by decide +kernel)) (by decide +kernel)
theorem co_X11_has : Jvm.Cond.code yX11_has cX11_has 2 (some .boolean) ∈ qTw := qm3 (List.mem_of_getElem? (i := 97) (by decide +kernel)) (by decide +kernel)
theorem yk_X11_has : qYk yX11_has 2 := ⟨⟨by decide +kernel, by decide +kernel⟩, by decide +kernel⟩
theorem ml_X4_119 : Jvm.Cond.methodLinkNest RX4 119 yX11_has "ParentEve" ∈ qTw := qm4 (List.mem_of_getElem? (i := 93) (by decide +kernel)) (by decide +kernel)
theorem kd_X4_119 {C : qCx} {w : qWp} {cc : ByteArray} {nL dp n0 n1 pc : Nat} (h : qOk C w RX4 cc nL dp n0 n1) (d : decode cc pc = .ok (.invokestatic 119, 3)) : qCallOk C w nL dp n0 n1 pc 2 0 yX11_has (.code yX11_has cX11_has 2 (some .boolean)) := kindSN h d ml_X4_119 im_X11_has in_ParentEve co_X11_has yk_X11_has (by decide)
theorem im_X7_told : Jvm.Cond.instanceMethod yX7_told ∈ qTw := qm3 (List.mem_of_getElem? (i := 121) (by decide +kernel)) (by decide +kernel)
theorem se_X7_told : Jvm.Cond.selects yX7_told.cls yX7_told yX7_told ∈ qTw := qm3 (List.mem_of_getElem? (i := 122) (by decide +kernel)) (by decide +kernel)
theorem co_X7_told : Jvm.Cond.code yX7_told cX7_told 2 (some .int) ∈ qTw := qm3 (List.mem_of_getElem? (i := 123) (by decide +kernel)) (by decide +kernel)
theorem yk_X7_told : qYk yX7_told 1 := ⟨⟨by decide +kernel, by decide +kernel⟩, by decide +kernel⟩
theorem ml_X4_123 : Jvm.Cond.methodLink RX4 123 yX7_told ∈ qTw := qm4 (List.mem_of_getElem? (i := 94) (by decide +kernel)) (by decide +kernel)
theorem kd_X4_123 {C : qCx} {w : qWp} {cc : ByteArray} {nL dp n0 n1 pc : Nat} (h : qOk C w RX4 cc nL dp n0 n1) (d : decode cc pc = .ok (.invokevirtual 123, 3)) : qCallOk C w nL dp n0 n1 pc 2 1 yX7_told (.code yX7_told cX7_told 2 (some .int)) := kindV h d ml_X4_123 im_X7_told se_X7_told in_ParentEve_Rules co_X7_told yk_X7_told (by decide)
theorem dX4_tooNearForApart_0 : decode cX4_tooNearForApart 0 = .ok (.iconst 0, 1) := by decide +kernel
theorem dX4_tooNearForApart_1 : decode cX4_tooNearForApart 1 = .ok (.istore_n 2, 1) := by decide +kernel
theorem dX4_tooNearForApart_2 : decode cX4_tooNearForApart 2 = .ok (.iconst 0, 1) := by decide +kernel
theorem dX4_tooNearForApart_3 : decode cX4_tooNearForApart 3 = .ok (.istore_n 3, 1) := by decide +kernel
theorem dX4_tooNearForApart_4 : decode cX4_tooNearForApart 4 = .ok (.iload_n 3, 1) := by decide +kernel
theorem dX4_tooNearForApart_5 : decode cX4_tooNearForApart 5 = .ok (.bipush 15, 2) := by decide +kernel
theorem dX4_tooNearForApart_7 : decode cX4_tooNearForApart 7 = .ok (.if_icmp .ge 33, 3) := by decide +kernel
theorem dX4_tooNearForApart_10 : decode cX4_tooNearForApart 10 = .ok (.aload_n 0, 1) := by decide +kernel
theorem dX4_tooNearForApart_11 : decode cX4_tooNearForApart 11 = .ok (.getfield 63, 3) := by decide +kernel
theorem dX4_tooNearForApart_14 : decode cX4_tooNearForApart 14 = .ok (.iload_n 1, 1) := by decide +kernel
theorem dX4_tooNearForApart_15 : decode cX4_tooNearForApart 15 = .ok (.invokevirtual 116, 3) := by decide +kernel
theorem dX4_tooNearForApart_18 : decode cX4_tooNearForApart 18 = .ok (.iload_n 3, 1) := by decide +kernel
theorem dX4_tooNearForApart_19 : decode cX4_tooNearForApart 19 = .ok (.invokestatic 119, 3) := by decide +kernel
theorem dX4_tooNearForApart_22 : decode cX4_tooNearForApart 22 = .ok (.ifCond .eq 12, 3) := by decide +kernel
theorem dX4_tooNearForApart_25 : decode cX4_tooNearForApart 25 = .ok (.iload_n 2, 1) := by decide +kernel
theorem dX4_tooNearForApart_26 : decode cX4_tooNearForApart 26 = .ok (.aload_n 0, 1) := by decide +kernel
theorem dX4_tooNearForApart_27 : decode cX4_tooNearForApart 27 = .ok (.getfield 31, 3) := by decide +kernel
theorem dX4_tooNearForApart_30 : decode cX4_tooNearForApart 30 = .ok (.iload_n 3, 1) := by decide +kernel
theorem dX4_tooNearForApart_31 : decode cX4_tooNearForApart 31 = .ok (.iaload, 1) := by decide +kernel
theorem dX4_tooNearForApart_32 : decode cX4_tooNearForApart 32 = .ok (.ior, 1) := by decide +kernel
theorem dX4_tooNearForApart_33 : decode cX4_tooNearForApart 33 = .ok (.istore_n 2, 1) := by decide +kernel
theorem dX4_tooNearForApart_34 : decode cX4_tooNearForApart 34 = .ok (.iinc 3 1, 3) := by decide +kernel
theorem dX4_tooNearForApart_37 : decode cX4_tooNearForApart 37 = .ok (.goto (-33), 3) := by decide +kernel
theorem dX4_tooNearForApart_40 : decode cX4_tooNearForApart 40 = .ok (.iload_n 2, 1) := by decide +kernel
theorem dX4_tooNearForApart_41 : decode cX4_tooNearForApart 41 = .ok (.istore_n 3, 1) := by decide +kernel
theorem dX4_tooNearForApart_42 : decode cX4_tooNearForApart 42 = .ok (.iconst 1, 1) := by decide +kernel
theorem dX4_tooNearForApart_43 : decode cX4_tooNearForApart 43 = .ok (.istore 4, 2) := by decide +kernel
theorem dX4_tooNearForApart_45 : decode cX4_tooNearForApart 45 = .ok (.iload 4, 2) := by decide +kernel
theorem dX4_tooNearForApart_47 : decode cX4_tooNearForApart 47 = .ok (.aload_n 0, 1) := by decide +kernel
theorem dX4_tooNearForApart_48 : decode cX4_tooNearForApart 48 = .ok (.getfield 59, 3) := by decide +kernel
theorem dX4_tooNearForApart_51 : decode cX4_tooNearForApart 51 = .ok (.iconst 5, 1) := by decide +kernel
theorem dX4_tooNearForApart_52 : decode cX4_tooNearForApart 52 = .ok (.invokevirtual 123, 3) := by decide +kernel
theorem dX4_tooNearForApart_55 : decode cX4_tooNearForApart 55 = .ok (.if_icmp .gt 21, 3) := by decide +kernel
theorem dX4_tooNearForApart_58 : decode cX4_tooNearForApart 58 = .ok (.iload_n 3, 1) := by decide +kernel
theorem dX4_tooNearForApart_59 : decode cX4_tooNearForApart 59 = .ok (.iload_n 2, 1) := by decide +kernel
theorem dX4_tooNearForApart_60 : decode cX4_tooNearForApart 60 = .ok (.iload 4, 2) := by decide +kernel
theorem dX4_tooNearForApart_62 : decode cX4_tooNearForApart 62 = .ok (.ishl, 1) := by decide +kernel
theorem dX4_tooNearForApart_63 : decode cX4_tooNearForApart 63 = .ok (.iload_n 2, 1) := by decide +kernel
theorem dX4_tooNearForApart_64 : decode cX4_tooNearForApart 64 = .ok (.iload 4, 2) := by decide +kernel
theorem dX4_tooNearForApart_66 : decode cX4_tooNearForApart 66 = .ok (.ishr, 1) := by decide +kernel
theorem dX4_tooNearForApart_67 : decode cX4_tooNearForApart 67 = .ok (.ior, 1) := by decide +kernel
theorem dX4_tooNearForApart_68 : decode cX4_tooNearForApart 68 = .ok (.ior, 1) := by decide +kernel
theorem dX4_tooNearForApart_69 : decode cX4_tooNearForApart 69 = .ok (.istore_n 3, 1) := by decide +kernel
theorem dX4_tooNearForApart_70 : decode cX4_tooNearForApart 70 = .ok (.iinc 4 1, 3) := by decide +kernel
theorem dX4_tooNearForApart_73 : decode cX4_tooNearForApart 73 = .ok (.goto (-28), 3) := by decide +kernel
theorem dX4_tooNearForApart_76 : decode cX4_tooNearForApart 76 = .ok (.iload_n 3, 1) := by decide +kernel
theorem dX4_tooNearForApart_77 : decode cX4_tooNearForApart 77 = .ok (.ireturn, 1) := by decide +kernel
noncomputable def tX4_tooNearForApart_21 (j4 : qT (Int32 × qM)) : qT (Int32 × qM) :=
  oInc 3 (1 : Int32) (j4)
noncomputable def wX4_tooNearForApart_21 (k : Int32 → Int32 → Int32 → qM → Option (Int32 × qM)) : qT (Int32 × qM) := fun lo st m => match lo, st with
  | [some (.ref 58), some (.int a1), some (.int a2), some (.int a3), _], [] => k a1 a2 a3 m
  | _, _ => none
noncomputable def wX4_tooNearForApart_4 (k : Int32 → Int32 → Int32 → qM → Option (Int32 × qM)) : qT (Int32 × qM) := fun lo st m => match lo, st with
  | [some (.ref 58), some (.int a1), some (.int a2), some (.int a3), _], [] => k a1 a2 a3 m
  | _, _ => none
set_option maxRecDepth 20000 in
theorem sX4_tooNearForApart_21 {C : qCx} {w : qWp} (h : qOk C w RX4 cX4_tooNearForApart 5 2 155 155) (hm : qMt C (some .int)) (hx : qNx C) {j4 : qT (Int32 × qM)} (k4 : qSnd C w 5 155 (qQf C w 155 155 jI) qfin 155 4 j4) : qSnd C w 5 155 (qQf C w 155 155 jI) qfin 155 34 (tX4_tooNearForApart_21 j4) :=
  cInc (pc := 34) h dX4_tooNearForApart_34 rfl (jGo (pc := 37) h dX4_tooNearForApart_37 rfl (k4))
set_option maxRecDepth 20000 in
theorem lX4_tooNearForApart_21 (k4 : Int32 → Int32 → Int32 → qM → Option (Int32 × qM)) (a1 : Int32) (a2 : Int32) (a3 : Int32) (m : qM) : tX4_tooNearForApart_21 (wX4_tooNearForApart_4 k4) [some (.ref 58), some (.int a1), some (.int a2), some (.int a3), none] [] m = fX4_tooNearForApart_21 k4 a1 a2 a3 m := rfl
theorem bX4_tooNearForApart_21 {C : qCx} {w : qWp} (h : qOk C w RX4 cX4_tooNearForApart 5 2 155 155) (hm : qMt C (some .int)) (hx : qNx C) {k4 : Int32 → Int32 → Int32 → qM → Option (Int32 × qM)} (h4 : qSnd C w 5 155 (qQf C w 155 155 jI) qfin 155 4 (wX4_tooNearForApart_4 k4)) : qSnd C w 5 155 (qQf C w 155 155 jI) qfin 155 34 (wX4_tooNearForApart_21 (fX4_tooNearForApart_21 k4)) :=
  qSnd_of (fun lo st m x hr0 => by
    unfold wX4_tooNearForApart_21 at hr0
    split at hr0
    · exact ⟨_, (qsub_e (qsub_e (qsub_e (qsub_e (qsub_n qsub_nil))))), (lX4_tooNearForApart_21 _ _ _ _ _).trans hr0⟩
    · cases hr0) (sX4_tooNearForApart_21 h hm hx h4)
noncomputable def tX4_tooNearForApart_4 (j27 : qT (Int32 × qM)) (j21 : qT (Int32 × qM)) : qT (Int32 × qM) :=
  oLi 3 (oC (.int (15 : Int32)) (oCGe (oLi 2 (oSi 3 (oC (.int (1 : Int32)) (oSi 4 (j27))))) (oLa 0 (oGf 58 1 47 (oLi 1 (oCi GX3_apartFrom 2 (oLi 3 (oCi GX11_has 2 (oEq (j21) (oLi 2 (oLa 0 (oGf 58 8 65 (oLi 3 (oAi 65 15 (o2 (· ||| ·) (oSi 2 (j21)))))))))))))))))
noncomputable def wX4_tooNearForApart_27 (k : Int32 → Int32 → Int32 → qM → Option (Int32 × qM)) : qT (Int32 × qM) := fun lo st m => match lo, st with
  | [some (.ref 58), _, some (.int a2), some (.int a3), some (.int a4)], [] => k a2 a3 a4 m
  | _, _ => none
set_option maxRecDepth 20000 in
theorem sX4_tooNearForApart_4 {C : qCx} {w : qWp} (h : qOk C w RX4 cX4_tooNearForApart 5 2 155 155) (hm : qMt C (some .int)) (hx : qNx C) {j27 : qT (Int32 × qM)} {j21 : qT (Int32 × qM)} (k27 : qSnd C w 5 155 (qQf C w 155 155 jI) qfin 155 45 j27) (k21 : qSnd C w 5 155 (qQf C w 155 155 jI) qfin 155 34 j21) : qSnd C w 5 155 (qQf C w 155 155 jI) qfin 155 4 (tX4_tooNearForApart_4 j27 j21) :=
  cLi (pc := 4) h dX4_tooNearForApart_4 rfl (cB (pc := 5) h dX4_tooNearForApart_5 rfl (jCGe (pc := 7) h dX4_tooNearForApart_7 rfl (cLi (pc := 40) h dX4_tooNearForApart_40 rfl (cSi (pc := 41) h dX4_tooNearForApart_41 rfl (cC (pc := 42) h dX4_tooNearForApart_42 rfl (cSI (pc := 43) h dX4_tooNearForApart_43 (k27))))) (cLa (pc := 10) h dX4_tooNearForApart_10 rfl (gGf (pc := 11) h dX4_tooNearForApart_11 ff_X4_63_58 (Nat.le_of_ble_eq_true rfl) (Nat.le_of_ble_eq_true rfl) rfl (cLi (pc := 14) h dX4_tooNearForApart_14 rfl (kCi (pc := 15) h (kd_X4_116 h dX4_tooNearForApart_15) spX3_apartFrom (by decide) (by decide) (by decide) (by decide) (cLi (pc := 18) h dX4_tooNearForApart_18 rfl (kCi (pc := 19) h (kd_X4_119 h dX4_tooNearForApart_19) spX11_has (by decide) (by decide) (by decide) (by decide) (jEq (pc := 22) h dX4_tooNearForApart_22 rfl (k21) (cLi (pc := 25) h dX4_tooNearForApart_25 rfl (cLa (pc := 26) h dX4_tooNearForApart_26 rfl (gGf (pc := 27) h dX4_tooNearForApart_27 ff_X4_31_58 (Nat.le_of_ble_eq_true rfl) (Nat.le_of_ble_eq_true rfl) rfl (cLi (pc := 30) h dX4_tooNearForApart_30 rfl (rAi (pc := 31) h dX4_tooNearForApart_31 rfl (Nat.le_of_ble_eq_true rfl) (Nat.le_of_ble_eq_true rfl) (aOr (pc := 32) h dX4_tooNearForApart_32 (cSi (pc := 33) h dX4_tooNearForApart_33 rfl (k21)))))))))))))))))
set_option maxRecDepth 20000 in
theorem lX4_tooNearForApart_4 (k27 : Int32 → Int32 → Int32 → qM → Option (Int32 × qM)) (n : Nat) (a1 : Int32) (a2 : Int32) (a3 : Int32) (m : qM) : tX4_tooNearForApart_4 (wX4_tooNearForApart_27 k27) (wX4_tooNearForApart_21 (fX4_tooNearForApart_21 (fX4_tooNearForApart_4 k27 n))) [some (.ref 58), some (.int a1), some (.int a2), some (.int a3), none] [] m = fX4_tooNearForApart_4 k27 (n + 1) a1 a2 a3 m := rfl
theorem bX4_tooNearForApart_4 {C : qCx} {w : qWp} (h : qOk C w RX4 cX4_tooNearForApart 5 2 155 155) (hm : qMt C (some .int)) (hx : qNx C) {k27 : Int32 → Int32 → Int32 → qM → Option (Int32 × qM)} (h27 : qSnd C w 5 155 (qQf C w 155 155 jI) qfin 155 45 (wX4_tooNearForApart_27 k27)) : ∀ n : Nat, qSnd C w 5 155 (qQf C w 155 155 jI) qfin 155 4 (wX4_tooNearForApart_4 (fX4_tooNearForApart_4 k27 n))
  | 0 => qSnd_of0 (fun lo st m x hr0 => by
    unfold wX4_tooNearForApart_4 at hr0
    split at hr0
    · cases hr0
    · cases hr0)
  | n + 1 => by
    have ih := bX4_tooNearForApart_4 h hm hx h27 n
    exact qSnd_of (fun lo st m x hr0 => by
    unfold wX4_tooNearForApart_4 at hr0
    split at hr0
    · exact ⟨_, (qsub_e (qsub_e (qsub_e (qsub_e (qsub_n qsub_nil))))), (lX4_tooNearForApart_4 _ n _ _ _ _).trans hr0⟩
    · cases hr0) (sX4_tooNearForApart_4 h hm hx h27 (bX4_tooNearForApart_21 h hm hx ih))
noncomputable def tX4_tooNearForApart_27 (j27 : qT (Int32 × qM)) : qT (Int32 × qM) :=
  oLi 4 (oLa 0 (oGf 58 0 4 (oC (.int (5 : Int32)) (oCi GX7_told 2 (oCGt (oLi 3 (eI)) (oLi 3 (oLi 2 (oLi 4 (o2 (fun x y => x <<< (y &&& 31)) (oLi 2 (oLi 4 (o2 (fun x y => x >>> (y &&& 31)) (o2 (· ||| ·) (o2 (· ||| ·) (oSi 3 (oInc 4 (1 : Int32) (j27)))))))))))))))))
set_option maxRecDepth 20000 in
theorem sX4_tooNearForApart_27 {C : qCx} {w : qWp} (h : qOk C w RX4 cX4_tooNearForApart 5 2 155 155) (hm : qMt C (some .int)) (hx : qNx C) {j27 : qT (Int32 × qM)} (k27 : qSnd C w 5 155 (qQf C w 155 155 jI) qfin 155 45 j27) : qSnd C w 5 155 (qQf C w 155 155 jI) qfin 155 45 (tX4_tooNearForApart_27 j27) :=
  cLI (pc := 45) h dX4_tooNearForApart_45 (cLa (pc := 47) h dX4_tooNearForApart_47 rfl (gGf (pc := 48) h dX4_tooNearForApart_48 ff_X4_59_58 (Nat.le_of_ble_eq_true rfl) (Nat.le_of_ble_eq_true rfl) rfl (cC (pc := 51) h dX4_tooNearForApart_51 rfl (kCi (pc := 52) h (kd_X4_123 h dX4_tooNearForApart_52) spX7_told (by decide) (by decide) (by decide) (by decide) (jCGt (pc := 55) h dX4_tooNearForApart_55 rfl (cLi (pc := 76) h dX4_tooNearForApart_76 rfl (zI (pc := 77) h hm (Nat.le_refl _) dX4_tooNearForApart_77)) (cLi (pc := 58) h dX4_tooNearForApart_58 rfl (cLi (pc := 59) h dX4_tooNearForApart_59 rfl (cLI (pc := 60) h dX4_tooNearForApart_60 (aShl (pc := 62) h dX4_tooNearForApart_62 (cLi (pc := 63) h dX4_tooNearForApart_63 rfl (cLI (pc := 64) h dX4_tooNearForApart_64 (aShr (pc := 66) h dX4_tooNearForApart_66 (aOr (pc := 67) h dX4_tooNearForApart_67 (aOr (pc := 68) h dX4_tooNearForApart_68 (cSi (pc := 69) h dX4_tooNearForApart_69 rfl (cInc (pc := 70) h dX4_tooNearForApart_70 rfl (jGo (pc := 73) h dX4_tooNearForApart_73 rfl (k27))))))))))))))))))
set_option maxRecDepth 20000 in
theorem lX4_tooNearForApart_27 (n : Nat) (a2 : Int32) (a3 : Int32) (a4 : Int32) (m : qM) : tX4_tooNearForApart_27 (wX4_tooNearForApart_27 ((fX4_tooNearForApart_27 n))) [some (.ref 58), none, some (.int a2), some (.int a3), some (.int a4)] [] m = fX4_tooNearForApart_27 (n + 1) a2 a3 a4 m := rfl
theorem bX4_tooNearForApart_27 {C : qCx} {w : qWp} (h : qOk C w RX4 cX4_tooNearForApart 5 2 155 155) (hm : qMt C (some .int)) (hx : qNx C) : ∀ n : Nat, qSnd C w 5 155 (qQf C w 155 155 jI) qfin 155 45 (wX4_tooNearForApart_27 (fX4_tooNearForApart_27 n))
  | 0 => qSnd_of0 (fun lo st m x hr0 => by
    unfold wX4_tooNearForApart_27 at hr0
    split at hr0
    · cases hr0
    · cases hr0)
  | n + 1 => by
    have ih := bX4_tooNearForApart_27 h hm hx n
    exact qSnd_of (fun lo st m x hr0 => by
    unfold wX4_tooNearForApart_27 at hr0
    split at hr0
    · exact ⟨_, (qsub_e (qsub_n (qsub_e (qsub_e (qsub_e qsub_nil))))), (lX4_tooNearForApart_27 n _ _ _ _).trans hr0⟩
    · cases hr0) (sX4_tooNearForApart_27 h hm hx ih)
noncomputable def tX4_tooNearForApart_0 (j4 : qT (Int32 × qM)) : qT (Int32 × qM) :=
  oC (.int (0 : Int32)) (oSi 2 (oC (.int (0 : Int32)) (oSi 3 (j4))))
set_option maxRecDepth 20000 in
theorem sX4_tooNearForApart_0 {C : qCx} {w : qWp} (h : qOk C w RX4 cX4_tooNearForApart 5 2 155 155) (hm : qMt C (some .int)) (hx : qNx C) {j4 : qT (Int32 × qM)} (k4 : qSnd C w 5 155 (qQf C w 155 155 jI) qfin 155 4 j4) : qSnd C w 5 155 (qQf C w 155 155 jI) qfin 155 0 (tX4_tooNearForApart_0 j4) :=
  cC (pc := 0) h dX4_tooNearForApart_0 rfl (cSi (pc := 1) h dX4_tooNearForApart_1 rfl (cC (pc := 2) h dX4_tooNearForApart_2 rfl (cSi (pc := 3) h dX4_tooNearForApart_3 rfl (k4))))
set_option maxRecDepth 20000 in
theorem lX4_tooNearForApart_0 (a1 : Int32) (m : qM) : tX4_tooNearForApart_0 (wX4_tooNearForApart_4 (fX4_tooNearForApart_4 (fX4_tooNearForApart_27 FU) FU)) [some (.ref 58), some (.int a1), none, none, none] [] m = fX4_tooNearForApart_0 a1 m := rfl
noncomputable def GX4_tooNearForApart : qG Int32 := fun av m => match av with
  | [.ref 58, .int a1] => fX4_tooNearForApart a1 m
  | _ => none
theorem spX4_tooNearForApart : qSpI yX4_tooNearForApart (.code yX4_tooNearForApart cX4_tooNearForApart 5 (some .int)) 2 qfin 155 155 1 GX4_tooNearForApart := by
  intro av m x m' hG
  unfold GX4_tooNearForApart at hG
  split at hG
  · rename_i a1
    rw [fX4_tooNearForApart_d] at hG
    exact ⟨qmeet (J := jI) (r := (x, m')) (av := [.ref 58, .int a1]) (by decide +kernel) (Nat.le_of_ble_eq_true rfl) (fun C w h hm hx hn => sX4_tooNearForApart_0 h hm hx (bX4_tooNearForApart_4 h hm hx (bX4_tooNearForApart_27 h hm hx FU) FU)) ((lX4_tooNearForApart_0 _ _).trans hG) (Nat.le_of_ble_eq_true rfl), Or.inl ⟨58, _, 4, _, _, rfl, by decide, rfl, qCk_4, rfl⟩⟩
  · cases hG
theorem dX4_tooManyInARow_0 : decode cX4_tooManyInARow 0 = .ok (.aload_n 0, 1) := by decide +kernel
theorem dX4_tooManyInARow_1 : decode cX4_tooManyInARow 1 = .ok (.getfield 59, 3) := by decide +kernel
theorem dX4_tooManyInARow_4 : decode cX4_tooManyInARow 4 = .ok (.iconst 4, 1) := by decide +kernel
theorem dX4_tooManyInARow_5 : decode cX4_tooManyInARow 5 = .ok (.invokevirtual 123, 3) := by decide +kernel
theorem dX4_tooManyInARow_8 : decode cX4_tooManyInARow 8 = .ok (.istore_n 2, 1) := by decide +kernel
theorem dX4_tooManyInARow_9 : decode cX4_tooManyInARow 9 = .ok (.aload_n 0, 1) := by decide +kernel
theorem dX4_tooManyInARow_10 : decode cX4_tooManyInARow 10 = .ok (.getfield 34, 3) := by decide +kernel
theorem dX4_tooManyInARow_13 : decode cX4_tooManyInARow 13 = .ok (.iload_n 1, 1) := by decide +kernel
theorem dX4_tooManyInARow_14 : decode cX4_tooManyInARow 14 = .ok (.iaload, 1) := by decide +kernel
theorem dX4_tooManyInARow_15 : decode cX4_tooManyInARow 15 = .ok (.istore_n 3, 1) := by decide +kernel
theorem dX4_tooManyInARow_16 : decode cX4_tooManyInARow 16 = .ok (.iconst 0, 1) := by decide +kernel
theorem dX4_tooManyInARow_17 : decode cX4_tooManyInARow 17 = .ok (.istore 4, 2) := by decide +kernel
theorem dX4_tooManyInARow_19 : decode cX4_tooManyInARow 19 = .ok (.iconst 0, 1) := by decide +kernel
theorem dX4_tooManyInARow_20 : decode cX4_tooManyInARow 20 = .ok (.istore 5, 2) := by decide +kernel
theorem dX4_tooManyInARow_22 : decode cX4_tooManyInARow 22 = .ok (.iload 5, 2) := by decide +kernel
theorem dX4_tooManyInARow_24 : decode cX4_tooManyInARow 24 = .ok (.bipush 20, 2) := by decide +kernel
theorem dX4_tooManyInARow_26 : decode cX4_tooManyInARow 26 = .ok (.if_icmp .ge 91, 3) := by decide +kernel
theorem dX4_tooManyInARow_29 : decode cX4_tooManyInARow 29 = .ok (.iload_n 2, 1) := by decide +kernel
theorem dX4_tooManyInARow_30 : decode cX4_tooManyInARow 30 = .ok (.ifCond .le 87, 3) := by decide +kernel
theorem dX4_tooManyInARow_33 : decode cX4_tooManyInARow 33 = .ok (.iconst 1, 1) := by decide +kernel
theorem dX4_tooManyInARow_34 : decode cX4_tooManyInARow 34 = .ok (.istore 6, 2) := by decide +kernel
theorem dX4_tooManyInARow_36 : decode cX4_tooManyInARow 36 = .ok (.iload 5, 2) := by decide +kernel
theorem dX4_tooManyInARow_38 : decode cX4_tooManyInARow 38 = .ok (.iconst 1, 1) := by decide +kernel
theorem dX4_tooManyInARow_39 : decode cX4_tooManyInARow 39 = .ok (.isub, 1) := by decide +kernel
theorem dX4_tooManyInARow_40 : decode cX4_tooManyInARow 40 = .ok (.istore 7, 2) := by decide +kernel
theorem dX4_tooManyInARow_42 : decode cX4_tooManyInARow 42 = .ok (.iload 7, 2) := by decide +kernel
theorem dX4_tooManyInARow_44 : decode cX4_tooManyInARow 44 = .ok (.ifCond .lt 21, 3) := by decide +kernel
theorem dX4_tooManyInARow_47 : decode cX4_tooManyInARow 47 = .ok (.iload_n 3, 1) := by decide +kernel
theorem dX4_tooManyInARow_48 : decode cX4_tooManyInARow 48 = .ok (.iload 7, 2) := by decide +kernel
theorem dX4_tooManyInARow_50 : decode cX4_tooManyInARow 50 = .ok (.invokestatic 119, 3) := by decide +kernel
theorem dX4_tooManyInARow_53 : decode cX4_tooManyInARow 53 = .ok (.ifCond .eq 12, 3) := by decide +kernel
theorem dX4_tooManyInARow_56 : decode cX4_tooManyInARow 56 = .ok (.iinc 6 1, 3) := by decide +kernel
theorem dX4_tooManyInARow_59 : decode cX4_tooManyInARow 59 = .ok (.iinc 7 (-1), 3) := by decide +kernel
theorem dX4_tooManyInARow_62 : decode cX4_tooManyInARow 62 = .ok (.goto (-20), 3) := by decide +kernel
theorem dX4_tooManyInARow_65 : decode cX4_tooManyInARow 65 = .ok (.iload 5, 2) := by decide +kernel
theorem dX4_tooManyInARow_67 : decode cX4_tooManyInARow 67 = .ok (.iconst 1, 1) := by decide +kernel
theorem dX4_tooManyInARow_68 : decode cX4_tooManyInARow 68 = .ok (.iadd, 1) := by decide +kernel
theorem dX4_tooManyInARow_69 : decode cX4_tooManyInARow 69 = .ok (.istore 7, 2) := by decide +kernel
theorem dX4_tooManyInARow_71 : decode cX4_tooManyInARow 71 = .ok (.iload 7, 2) := by decide +kernel
theorem dX4_tooManyInARow_73 : decode cX4_tooManyInARow 73 = .ok (.bipush 20, 2) := by decide +kernel
theorem dX4_tooManyInARow_75 : decode cX4_tooManyInARow 75 = .ok (.if_icmp .ge 21, 3) := by decide +kernel
theorem dX4_tooManyInARow_78 : decode cX4_tooManyInARow 78 = .ok (.iload_n 3, 1) := by decide +kernel
theorem dX4_tooManyInARow_79 : decode cX4_tooManyInARow 79 = .ok (.iload 7, 2) := by decide +kernel
theorem dX4_tooManyInARow_81 : decode cX4_tooManyInARow 81 = .ok (.invokestatic 119, 3) := by decide +kernel
theorem dX4_tooManyInARow_84 : decode cX4_tooManyInARow 84 = .ok (.ifCond .eq 12, 3) := by decide +kernel
theorem dX4_tooManyInARow_87 : decode cX4_tooManyInARow 87 = .ok (.iinc 6 1, 3) := by decide +kernel
theorem dX4_tooManyInARow_90 : decode cX4_tooManyInARow 90 = .ok (.iinc 7 1, 3) := by decide +kernel
theorem dX4_tooManyInARow_93 : decode cX4_tooManyInARow 93 = .ok (.goto (-22), 3) := by decide +kernel
theorem dX4_tooManyInARow_96 : decode cX4_tooManyInARow 96 = .ok (.iload 6, 2) := by decide +kernel
theorem dX4_tooManyInARow_98 : decode cX4_tooManyInARow 98 = .ok (.iload_n 2, 1) := by decide +kernel
theorem dX4_tooManyInARow_99 : decode cX4_tooManyInARow 99 = .ok (.if_icmp .le 12, 3) := by decide +kernel
theorem dX4_tooManyInARow_102 : decode cX4_tooManyInARow 102 = .ok (.iload 4, 2) := by decide +kernel
theorem dX4_tooManyInARow_104 : decode cX4_tooManyInARow 104 = .ok (.iconst 1, 1) := by decide +kernel
theorem dX4_tooManyInARow_105 : decode cX4_tooManyInARow 105 = .ok (.iload 5, 2) := by decide +kernel
theorem dX4_tooManyInARow_107 : decode cX4_tooManyInARow 107 = .ok (.ishl, 1) := by decide +kernel
theorem dX4_tooManyInARow_108 : decode cX4_tooManyInARow 108 = .ok (.ior, 1) := by decide +kernel
theorem dX4_tooManyInARow_109 : decode cX4_tooManyInARow 109 = .ok (.istore 4, 2) := by decide +kernel
theorem dX4_tooManyInARow_111 : decode cX4_tooManyInARow 111 = .ok (.iinc 5 1, 3) := by decide +kernel
theorem dX4_tooManyInARow_114 : decode cX4_tooManyInARow 114 = .ok (.goto (-92), 3) := by decide +kernel
theorem dX4_tooManyInARow_117 : decode cX4_tooManyInARow 117 = .ok (.iload 4, 2) := by decide +kernel
theorem dX4_tooManyInARow_119 : decode cX4_tooManyInARow 119 = .ok (.ireturn, 1) := by decide +kernel
noncomputable def tX4_tooManyInARow_25 (j34 : qT (Int32 × qM)) (j25 : qT (Int32 × qM)) : qT (Int32 × qM) :=
  oLi 7 (oLt (j34) (oLi 3 (oLi 7 (oCi GX11_has 2 (oEq (j34) (oInc 6 (1 : Int32) (oInc 7 (-1 : Int32) (j25))))))))
noncomputable def wX4_tooManyInARow_25 (k : Int32 → Int32 → Int32 → Int32 → Int32 → Int32 → qM → Option (Int32 × qM)) : qT (Int32 × qM) := fun lo st m => match lo, st with
  | [_, _, some (.int a2), some (.int a3), some (.int a4), some (.int a5), some (.int a6), some (.int a7)], [] => k a2 a3 a4 a5 a6 a7 m
  | _, _ => none
noncomputable def wX4_tooManyInARow_34 (k : Int32 → Int32 → Int32 → Int32 → Int32 → qM → Option (Int32 × qM)) : qT (Int32 × qM) := fun lo st m => match lo, st with
  | [_, _, some (.int a2), some (.int a3), some (.int a4), some (.int a5), some (.int a6), _], [] => k a2 a3 a4 a5 a6 m
  | _, _ => none
set_option maxRecDepth 20000 in
theorem sX4_tooManyInARow_25 {C : qCx} {w : qWp} (h : qOk C w RX4 cX4_tooManyInARow 8 2 155 155) (hm : qMt C (some .int)) (hx : qNx C) {j34 : qT (Int32 × qM)} {j25 : qT (Int32 × qM)} (k34 : qSnd C w 8 155 (qQf C w 155 155 jI) qfin 155 65 j34) (k25 : qSnd C w 8 155 (qQf C w 155 155 jI) qfin 155 42 j25) : qSnd C w 8 155 (qQf C w 155 155 jI) qfin 155 42 (tX4_tooManyInARow_25 j34 j25) :=
  cLI (pc := 42) h dX4_tooManyInARow_42 (jLt (pc := 44) h dX4_tooManyInARow_44 rfl (k34) (cLi (pc := 47) h dX4_tooManyInARow_47 rfl (cLI (pc := 48) h dX4_tooManyInARow_48 (kCi (pc := 50) h (kd_X4_119 h dX4_tooManyInARow_50) spX11_has (by decide) (by decide) (by decide) (by decide) (jEq (pc := 53) h dX4_tooManyInARow_53 rfl (k34) (cInc (pc := 56) h dX4_tooManyInARow_56 rfl (cInc (pc := 59) h dX4_tooManyInARow_59 rfl (jGo (pc := 62) h dX4_tooManyInARow_62 rfl (k25)))))))))
set_option maxRecDepth 20000 in
theorem lX4_tooManyInARow_25 (k34 : Int32 → Int32 → Int32 → Int32 → Int32 → qM → Option (Int32 × qM)) (n : Nat) (a2 : Int32) (a3 : Int32) (a4 : Int32) (a5 : Int32) (a6 : Int32) (a7 : Int32) (m : qM) : tX4_tooManyInARow_25 (wX4_tooManyInARow_34 k34) (wX4_tooManyInARow_25 ((fX4_tooManyInARow_25 k34 n))) [none, none, some (.int a2), some (.int a3), some (.int a4), some (.int a5), some (.int a6), some (.int a7)] [] m = fX4_tooManyInARow_25 k34 (n + 1) a2 a3 a4 a5 a6 a7 m := rfl
theorem bX4_tooManyInARow_25 {C : qCx} {w : qWp} (h : qOk C w RX4 cX4_tooManyInARow 8 2 155 155) (hm : qMt C (some .int)) (hx : qNx C) {k34 : Int32 → Int32 → Int32 → Int32 → Int32 → qM → Option (Int32 × qM)} (h34 : qSnd C w 8 155 (qQf C w 155 155 jI) qfin 155 65 (wX4_tooManyInARow_34 k34)) : ∀ n : Nat, qSnd C w 8 155 (qQf C w 155 155 jI) qfin 155 42 (wX4_tooManyInARow_25 (fX4_tooManyInARow_25 k34 n))
  | 0 => qSnd_of0 (fun lo st m x hr0 => by
    unfold wX4_tooManyInARow_25 at hr0
    split at hr0
    · cases hr0
    · cases hr0)
  | n + 1 => by
    have ih := bX4_tooManyInARow_25 h hm hx h34 n
    exact qSnd_of (fun lo st m x hr0 => by
    unfold wX4_tooManyInARow_25 at hr0
    split at hr0
    · exact ⟨_, (qsub_n (qsub_n (qsub_e (qsub_e (qsub_e (qsub_e (qsub_e (qsub_e qsub_nil)))))))), (lX4_tooManyInARow_25 _ n _ _ _ _ _ _ _).trans hr0⟩
    · cases hr0) (sX4_tooManyInARow_25 h hm hx h34 ih)
noncomputable def tX4_tooManyInARow_38 (j48 : qT (Int32 × qM)) (j38 : qT (Int32 × qM)) : qT (Int32 × qM) :=
  oLi 7 (oC (.int (20 : Int32)) (oCGe (j48) (oLi 3 (oLi 7 (oCi GX11_has 2 (oEq (j48) (oInc 6 (1 : Int32) (oInc 7 (1 : Int32) (j38)))))))))
noncomputable def wX4_tooManyInARow_38 (k : Int32 → Int32 → Int32 → Int32 → Int32 → Int32 → qM → Option (Int32 × qM)) : qT (Int32 × qM) := fun lo st m => match lo, st with
  | [_, _, some (.int a2), some (.int a3), some (.int a4), some (.int a5), some (.int a6), some (.int a7)], [] => k a2 a3 a4 a5 a6 a7 m
  | _, _ => none
noncomputable def wX4_tooManyInARow_48 (k : Int32 → Int32 → Int32 → Int32 → Int32 → qM → Option (Int32 × qM)) : qT (Int32 × qM) := fun lo st m => match lo, st with
  | [_, _, some (.int a2), some (.int a3), some (.int a4), some (.int a5), some (.int a6), _], [] => k a2 a3 a4 a5 a6 m
  | _, _ => none
set_option maxRecDepth 20000 in
theorem sX4_tooManyInARow_38 {C : qCx} {w : qWp} (h : qOk C w RX4 cX4_tooManyInARow 8 2 155 155) (hm : qMt C (some .int)) (hx : qNx C) {j48 : qT (Int32 × qM)} {j38 : qT (Int32 × qM)} (k48 : qSnd C w 8 155 (qQf C w 155 155 jI) qfin 155 96 j48) (k38 : qSnd C w 8 155 (qQf C w 155 155 jI) qfin 155 71 j38) : qSnd C w 8 155 (qQf C w 155 155 jI) qfin 155 71 (tX4_tooManyInARow_38 j48 j38) :=
  cLI (pc := 71) h dX4_tooManyInARow_71 (cB (pc := 73) h dX4_tooManyInARow_73 rfl (jCGe (pc := 75) h dX4_tooManyInARow_75 rfl (k48) (cLi (pc := 78) h dX4_tooManyInARow_78 rfl (cLI (pc := 79) h dX4_tooManyInARow_79 (kCi (pc := 81) h (kd_X4_119 h dX4_tooManyInARow_81) spX11_has (by decide) (by decide) (by decide) (by decide) (jEq (pc := 84) h dX4_tooManyInARow_84 rfl (k48) (cInc (pc := 87) h dX4_tooManyInARow_87 rfl (cInc (pc := 90) h dX4_tooManyInARow_90 rfl (jGo (pc := 93) h dX4_tooManyInARow_93 rfl (k38))))))))))
set_option maxRecDepth 20000 in
theorem lX4_tooManyInARow_38 (k48 : Int32 → Int32 → Int32 → Int32 → Int32 → qM → Option (Int32 × qM)) (n : Nat) (a2 : Int32) (a3 : Int32) (a4 : Int32) (a5 : Int32) (a6 : Int32) (a7 : Int32) (m : qM) : tX4_tooManyInARow_38 (wX4_tooManyInARow_48 k48) (wX4_tooManyInARow_38 ((fX4_tooManyInARow_38 k48 n))) [none, none, some (.int a2), some (.int a3), some (.int a4), some (.int a5), some (.int a6), some (.int a7)] [] m = fX4_tooManyInARow_38 k48 (n + 1) a2 a3 a4 a5 a6 a7 m := rfl
theorem bX4_tooManyInARow_38 {C : qCx} {w : qWp} (h : qOk C w RX4 cX4_tooManyInARow 8 2 155 155) (hm : qMt C (some .int)) (hx : qNx C) {k48 : Int32 → Int32 → Int32 → Int32 → Int32 → qM → Option (Int32 × qM)} (h48 : qSnd C w 8 155 (qQf C w 155 155 jI) qfin 155 96 (wX4_tooManyInARow_48 k48)) : ∀ n : Nat, qSnd C w 8 155 (qQf C w 155 155 jI) qfin 155 71 (wX4_tooManyInARow_38 (fX4_tooManyInARow_38 k48 n))
  | 0 => qSnd_of0 (fun lo st m x hr0 => by
    unfold wX4_tooManyInARow_38 at hr0
    split at hr0
    · cases hr0
    · cases hr0)
  | n + 1 => by
    have ih := bX4_tooManyInARow_38 h hm hx h48 n
    exact qSnd_of (fun lo st m x hr0 => by
    unfold wX4_tooManyInARow_38 at hr0
    split at hr0
    · exact ⟨_, (qsub_n (qsub_n (qsub_e (qsub_e (qsub_e (qsub_e (qsub_e (qsub_e qsub_nil)))))))), (lX4_tooManyInARow_38 _ n _ _ _ _ _ _ _).trans hr0⟩
    · cases hr0) (sX4_tooManyInARow_38 h hm hx h48 ih)
noncomputable def tX4_tooManyInARow_57 (j14 : qT (Int32 × qM)) : qT (Int32 × qM) :=
  oInc 5 (1 : Int32) (j14)
noncomputable def wX4_tooManyInARow_57 (k : Int32 → Int32 → Int32 → Int32 → qM → Option (Int32 × qM)) : qT (Int32 × qM) := fun lo st m => match lo, st with
  | [_, _, some (.int a2), some (.int a3), some (.int a4), some (.int a5), _, _], [] => k a2 a3 a4 a5 m
  | _, _ => none
noncomputable def wX4_tooManyInARow_14 (k : Int32 → Int32 → Int32 → Int32 → qM → Option (Int32 × qM)) : qT (Int32 × qM) := fun lo st m => match lo, st with
  | [_, _, some (.int a2), some (.int a3), some (.int a4), some (.int a5), _, _], [] => k a2 a3 a4 a5 m
  | _, _ => none
set_option maxRecDepth 20000 in
theorem sX4_tooManyInARow_57 {C : qCx} {w : qWp} (h : qOk C w RX4 cX4_tooManyInARow 8 2 155 155) (hm : qMt C (some .int)) (hx : qNx C) {j14 : qT (Int32 × qM)} (k14 : qSnd C w 8 155 (qQf C w 155 155 jI) qfin 155 22 j14) : qSnd C w 8 155 (qQf C w 155 155 jI) qfin 155 111 (tX4_tooManyInARow_57 j14) :=
  cInc (pc := 111) h dX4_tooManyInARow_111 rfl (jGo (pc := 114) h dX4_tooManyInARow_114 rfl (k14))
set_option maxRecDepth 20000 in
theorem lX4_tooManyInARow_57 (k14 : Int32 → Int32 → Int32 → Int32 → qM → Option (Int32 × qM)) (a2 : Int32) (a3 : Int32) (a4 : Int32) (a5 : Int32) (m : qM) : tX4_tooManyInARow_57 (wX4_tooManyInARow_14 k14) [none, none, some (.int a2), some (.int a3), some (.int a4), some (.int a5), none, none] [] m = fX4_tooManyInARow_57 k14 a2 a3 a4 a5 m := rfl
theorem bX4_tooManyInARow_57 {C : qCx} {w : qWp} (h : qOk C w RX4 cX4_tooManyInARow 8 2 155 155) (hm : qMt C (some .int)) (hx : qNx C) {k14 : Int32 → Int32 → Int32 → Int32 → qM → Option (Int32 × qM)} (h14 : qSnd C w 8 155 (qQf C w 155 155 jI) qfin 155 22 (wX4_tooManyInARow_14 k14)) : qSnd C w 8 155 (qQf C w 155 155 jI) qfin 155 111 (wX4_tooManyInARow_57 (fX4_tooManyInARow_57 k14)) :=
  qSnd_of (fun lo st m x hr0 => by
    unfold wX4_tooManyInARow_57 at hr0
    split at hr0
    · exact ⟨_, (qsub_n (qsub_n (qsub_e (qsub_e (qsub_e (qsub_e (qsub_n (qsub_n qsub_nil)))))))), (lX4_tooManyInARow_57 _ _ _ _ _ _).trans hr0⟩
    · cases hr0) (sX4_tooManyInARow_57 h hm hx h14)
noncomputable def tX4_tooManyInARow_48 (j57 : qT (Int32 × qM)) : qT (Int32 × qM) :=
  oLi 6 (oLi 2 (oCLe (j57) (oLi 4 (oC (.int (1 : Int32)) (oLi 5 (o2 (fun x y => x <<< (y &&& 31)) (o2 (· ||| ·) (oSi 4 (j57)))))))))
set_option maxRecDepth 20000 in
theorem sX4_tooManyInARow_48 {C : qCx} {w : qWp} (h : qOk C w RX4 cX4_tooManyInARow 8 2 155 155) (hm : qMt C (some .int)) (hx : qNx C) {j57 : qT (Int32 × qM)} (k57 : qSnd C w 8 155 (qQf C w 155 155 jI) qfin 155 111 j57) : qSnd C w 8 155 (qQf C w 155 155 jI) qfin 155 96 (tX4_tooManyInARow_48 j57) :=
  cLI (pc := 96) h dX4_tooManyInARow_96 (cLi (pc := 98) h dX4_tooManyInARow_98 rfl (jCLe (pc := 99) h dX4_tooManyInARow_99 rfl (k57) (cLI (pc := 102) h dX4_tooManyInARow_102 (cC (pc := 104) h dX4_tooManyInARow_104 rfl (cLI (pc := 105) h dX4_tooManyInARow_105 (aShl (pc := 107) h dX4_tooManyInARow_107 (aOr (pc := 108) h dX4_tooManyInARow_108 (cSI (pc := 109) h dX4_tooManyInARow_109 (k57)))))))))
set_option maxRecDepth 20000 in
theorem lX4_tooManyInARow_48 (k14 : Int32 → Int32 → Int32 → Int32 → qM → Option (Int32 × qM)) (a2 : Int32) (a3 : Int32) (a4 : Int32) (a5 : Int32) (a6 : Int32) (m : qM) : tX4_tooManyInARow_48 (wX4_tooManyInARow_57 (fX4_tooManyInARow_57 k14)) [none, none, some (.int a2), some (.int a3), some (.int a4), some (.int a5), some (.int a6), none] [] m = fX4_tooManyInARow_48 k14 a2 a3 a4 a5 a6 m := rfl
theorem bX4_tooManyInARow_48 {C : qCx} {w : qWp} (h : qOk C w RX4 cX4_tooManyInARow 8 2 155 155) (hm : qMt C (some .int)) (hx : qNx C) {k14 : Int32 → Int32 → Int32 → Int32 → qM → Option (Int32 × qM)} (h14 : qSnd C w 8 155 (qQf C w 155 155 jI) qfin 155 22 (wX4_tooManyInARow_14 k14)) : qSnd C w 8 155 (qQf C w 155 155 jI) qfin 155 96 (wX4_tooManyInARow_48 (fX4_tooManyInARow_48 k14)) :=
  qSnd_of (fun lo st m x hr0 => by
    unfold wX4_tooManyInARow_48 at hr0
    split at hr0
    · exact ⟨_, (qsub_n (qsub_n (qsub_e (qsub_e (qsub_e (qsub_e (qsub_e (qsub_n qsub_nil)))))))), (lX4_tooManyInARow_48 _ _ _ _ _ _ _).trans hr0⟩
    · cases hr0) (sX4_tooManyInARow_48 h hm hx (bX4_tooManyInARow_57 h hm hx h14))
noncomputable def tX4_tooManyInARow_34 (j38 : qT (Int32 × qM)) : qT (Int32 × qM) :=
  oLi 5 (oC (.int (1 : Int32)) (o2 (· + ·) (oSi 7 (j38))))
set_option maxRecDepth 20000 in
theorem sX4_tooManyInARow_34 {C : qCx} {w : qWp} (h : qOk C w RX4 cX4_tooManyInARow 8 2 155 155) (hm : qMt C (some .int)) (hx : qNx C) {j38 : qT (Int32 × qM)} (k38 : qSnd C w 8 155 (qQf C w 155 155 jI) qfin 155 71 j38) : qSnd C w 8 155 (qQf C w 155 155 jI) qfin 155 65 (tX4_tooManyInARow_34 j38) :=
  cLI (pc := 65) h dX4_tooManyInARow_65 (cC (pc := 67) h dX4_tooManyInARow_67 rfl (aAdd (pc := 68) h dX4_tooManyInARow_68 (cSI (pc := 69) h dX4_tooManyInARow_69 (k38))))
set_option maxRecDepth 20000 in
theorem lX4_tooManyInARow_34 (k14 : Int32 → Int32 → Int32 → Int32 → qM → Option (Int32 × qM)) (a2 : Int32) (a3 : Int32) (a4 : Int32) (a5 : Int32) (a6 : Int32) (m : qM) : tX4_tooManyInARow_34 (wX4_tooManyInARow_38 (fX4_tooManyInARow_38 (fX4_tooManyInARow_48 k14) FU)) [none, none, some (.int a2), some (.int a3), some (.int a4), some (.int a5), some (.int a6), none] [] m = fX4_tooManyInARow_34 k14 a2 a3 a4 a5 a6 m := rfl
theorem bX4_tooManyInARow_34 {C : qCx} {w : qWp} (h : qOk C w RX4 cX4_tooManyInARow 8 2 155 155) (hm : qMt C (some .int)) (hx : qNx C) {k14 : Int32 → Int32 → Int32 → Int32 → qM → Option (Int32 × qM)} (h14 : qSnd C w 8 155 (qQf C w 155 155 jI) qfin 155 22 (wX4_tooManyInARow_14 k14)) : qSnd C w 8 155 (qQf C w 155 155 jI) qfin 155 65 (wX4_tooManyInARow_34 (fX4_tooManyInARow_34 k14)) :=
  qSnd_of (fun lo st m x hr0 => by
    unfold wX4_tooManyInARow_34 at hr0
    split at hr0
    · exact ⟨_, (qsub_n (qsub_n (qsub_e (qsub_e (qsub_e (qsub_e (qsub_e (qsub_n qsub_nil)))))))), (lX4_tooManyInARow_34 _ _ _ _ _ _ _).trans hr0⟩
    · cases hr0) (sX4_tooManyInARow_34 h hm hx (bX4_tooManyInARow_38 h hm hx (bX4_tooManyInARow_48 h hm hx h14) FU))
noncomputable def tX4_tooManyInARow_14 (j59 : qT (Int32 × qM)) (j25 : qT (Int32 × qM)) : qT (Int32 × qM) :=
  oLi 5 (oC (.int (20 : Int32)) (oCGe (j59) (oLi 2 (oLe (j59) (oC (.int (1 : Int32)) (oSi 6 (oLi 5 (oC (.int (1 : Int32)) (o2 (· - ·) (oSi 7 (j25)))))))))))
noncomputable def wX4_tooManyInARow_59 (k : Int32 → qM → Option (Int32 × qM)) : qT (Int32 × qM) := fun lo st m => match lo, st with
  | [_, _, _, _, some (.int a4), _, _, _], [] => k a4 m
  | _, _ => none
set_option maxRecDepth 20000 in
theorem sX4_tooManyInARow_14 {C : qCx} {w : qWp} (h : qOk C w RX4 cX4_tooManyInARow 8 2 155 155) (hm : qMt C (some .int)) (hx : qNx C) {j59 : qT (Int32 × qM)} {j25 : qT (Int32 × qM)} (k59 : qSnd C w 8 155 (qQf C w 155 155 jI) qfin 155 117 j59) (k25 : qSnd C w 8 155 (qQf C w 155 155 jI) qfin 155 42 j25) : qSnd C w 8 155 (qQf C w 155 155 jI) qfin 155 22 (tX4_tooManyInARow_14 j59 j25) :=
  cLI (pc := 22) h dX4_tooManyInARow_22 (cB (pc := 24) h dX4_tooManyInARow_24 rfl (jCGe (pc := 26) h dX4_tooManyInARow_26 rfl (k59) (cLi (pc := 29) h dX4_tooManyInARow_29 rfl (jLe (pc := 30) h dX4_tooManyInARow_30 rfl (k59) (cC (pc := 33) h dX4_tooManyInARow_33 rfl (cSI (pc := 34) h dX4_tooManyInARow_34 (cLI (pc := 36) h dX4_tooManyInARow_36 (cC (pc := 38) h dX4_tooManyInARow_38 rfl (aSub (pc := 39) h dX4_tooManyInARow_39 (cSI (pc := 40) h dX4_tooManyInARow_40 (k25)))))))))))
set_option maxRecDepth 20000 in
theorem lX4_tooManyInARow_14 (k59 : Int32 → qM → Option (Int32 × qM)) (n : Nat) (a2 : Int32) (a3 : Int32) (a4 : Int32) (a5 : Int32) (m : qM) : tX4_tooManyInARow_14 (wX4_tooManyInARow_59 k59) (wX4_tooManyInARow_25 (fX4_tooManyInARow_25 (fX4_tooManyInARow_34 (fX4_tooManyInARow_14 k59 n)) FU)) [none, none, some (.int a2), some (.int a3), some (.int a4), some (.int a5), none, none] [] m = fX4_tooManyInARow_14 k59 (n + 1) a2 a3 a4 a5 m := rfl
theorem bX4_tooManyInARow_14 {C : qCx} {w : qWp} (h : qOk C w RX4 cX4_tooManyInARow 8 2 155 155) (hm : qMt C (some .int)) (hx : qNx C) {k59 : Int32 → qM → Option (Int32 × qM)} (h59 : qSnd C w 8 155 (qQf C w 155 155 jI) qfin 155 117 (wX4_tooManyInARow_59 k59)) : ∀ n : Nat, qSnd C w 8 155 (qQf C w 155 155 jI) qfin 155 22 (wX4_tooManyInARow_14 (fX4_tooManyInARow_14 k59 n))
  | 0 => qSnd_of0 (fun lo st m x hr0 => by
    unfold wX4_tooManyInARow_14 at hr0
    split at hr0
    · cases hr0
    · cases hr0)
  | n + 1 => by
    have ih := bX4_tooManyInARow_14 h hm hx h59 n
    exact qSnd_of (fun lo st m x hr0 => by
    unfold wX4_tooManyInARow_14 at hr0
    split at hr0
    · exact ⟨_, (qsub_n (qsub_n (qsub_e (qsub_e (qsub_e (qsub_e (qsub_n (qsub_n qsub_nil)))))))), (lX4_tooManyInARow_14 _ n _ _ _ _ _).trans hr0⟩
    · cases hr0) (sX4_tooManyInARow_14 h hm hx h59 (bX4_tooManyInARow_25 h hm hx (bX4_tooManyInARow_34 h hm hx ih) FU))
noncomputable def tX4_tooManyInARow_59 : qT (Int32 × qM) :=
  oLi 4 (eI)
set_option maxRecDepth 20000 in
theorem sX4_tooManyInARow_59 {C : qCx} {w : qWp} (h : qOk C w RX4 cX4_tooManyInARow 8 2 155 155) (hm : qMt C (some .int)) (hx : qNx C) : qSnd C w 8 155 (qQf C w 155 155 jI) qfin 155 117 (tX4_tooManyInARow_59) :=
  cLI (pc := 117) h dX4_tooManyInARow_117 (zI (pc := 119) h hm (Nat.le_refl _) dX4_tooManyInARow_119)
set_option maxRecDepth 20000 in
theorem lX4_tooManyInARow_59 (a4 : Int32) (m : qM) : tX4_tooManyInARow_59 [none, none, none, none, some (.int a4), none, none, none] [] m = fX4_tooManyInARow_59 a4 m := rfl
theorem bX4_tooManyInARow_59 {C : qCx} {w : qWp} (h : qOk C w RX4 cX4_tooManyInARow 8 2 155 155) (hm : qMt C (some .int)) (hx : qNx C) : qSnd C w 8 155 (qQf C w 155 155 jI) qfin 155 117 (wX4_tooManyInARow_59 fX4_tooManyInARow_59) :=
  qSnd_of (fun lo st m x hr0 => by
    unfold wX4_tooManyInARow_59 at hr0
    split at hr0
    · exact ⟨_, (qsub_n (qsub_n (qsub_n (qsub_n (qsub_e (qsub_n (qsub_n (qsub_n qsub_nil)))))))), (lX4_tooManyInARow_59 _ _).trans hr0⟩
    · cases hr0) (sX4_tooManyInARow_59 h hm hx)
noncomputable def tX4_tooManyInARow_0 (j14 : qT (Int32 × qM)) : qT (Int32 × qM) :=
  oLa 0 (oGf 58 0 4 (oC (.int (4 : Int32)) (oCi GX7_told 2 (oSi 2 (oLa 0 (oGf 58 9 66 (oLi 1 (oAi 66 10 (oSi 3 (oC (.int (0 : Int32)) (oSi 4 (oC (.int (0 : Int32)) (oSi 5 (j14))))))))))))))
set_option maxRecDepth 20000 in
theorem sX4_tooManyInARow_0 {C : qCx} {w : qWp} (h : qOk C w RX4 cX4_tooManyInARow 8 2 155 155) (hm : qMt C (some .int)) (hx : qNx C) {j14 : qT (Int32 × qM)} (k14 : qSnd C w 8 155 (qQf C w 155 155 jI) qfin 155 22 j14) : qSnd C w 8 155 (qQf C w 155 155 jI) qfin 155 0 (tX4_tooManyInARow_0 j14) :=
  cLa (pc := 0) h dX4_tooManyInARow_0 rfl (gGf (pc := 1) h dX4_tooManyInARow_1 ff_X4_59_58 (Nat.le_of_ble_eq_true rfl) (Nat.le_of_ble_eq_true rfl) rfl (cC (pc := 4) h dX4_tooManyInARow_4 rfl (kCi (pc := 5) h (kd_X4_123 h dX4_tooManyInARow_5) spX7_told (by decide) (by decide) (by decide) (by decide) (cSi (pc := 8) h dX4_tooManyInARow_8 rfl (cLa (pc := 9) h dX4_tooManyInARow_9 rfl (gGf (pc := 10) h dX4_tooManyInARow_10 ff_X4_34_58 (Nat.le_of_ble_eq_true rfl) (Nat.le_of_ble_eq_true rfl) rfl (cLi (pc := 13) h dX4_tooManyInARow_13 rfl (rAi (pc := 14) h dX4_tooManyInARow_14 rfl (Nat.le_of_ble_eq_true rfl) (Nat.le_of_ble_eq_true rfl) (cSi (pc := 15) h dX4_tooManyInARow_15 rfl (cC (pc := 16) h dX4_tooManyInARow_16 rfl (cSI (pc := 17) h dX4_tooManyInARow_17 (cC (pc := 19) h dX4_tooManyInARow_19 rfl (cSI (pc := 20) h dX4_tooManyInARow_20 (k14))))))))))))))
set_option maxRecDepth 20000 in
theorem lX4_tooManyInARow_0 (a1 : Int32) (m : qM) : tX4_tooManyInARow_0 (wX4_tooManyInARow_14 (fX4_tooManyInARow_14 fX4_tooManyInARow_59 FU)) [some (.ref 58), some (.int a1), none, none, none, none, none, none] [] m = fX4_tooManyInARow_0 a1 m := rfl
noncomputable def GX4_tooManyInARow : qG Int32 := fun av m => match av with
  | [.ref 58, .int a1] => fX4_tooManyInARow a1 m
  | _ => none
theorem spX4_tooManyInARow : qSpI yX4_tooManyInARow (.code yX4_tooManyInARow cX4_tooManyInARow 8 (some .int)) 2 qfin 155 155 1 GX4_tooManyInARow := by
  intro av m x m' hG
  unfold GX4_tooManyInARow at hG
  split at hG
  · rename_i a1
    rw [fX4_tooManyInARow_d] at hG
    exact ⟨qmeet (J := jI) (r := (x, m')) (av := [.ref 58, .int a1]) (by decide +kernel) (Nat.le_of_ble_eq_true rfl) (fun C w h hm hx hn => sX4_tooManyInARow_0 h hm hx (bX4_tooManyInARow_14 h hm hx (bX4_tooManyInARow_59 h hm hx) FU)) ((lX4_tooManyInARow_0 _ _).trans hG) (Nat.le_of_ble_eq_true rfl), Or.inl ⟨58, _, 4, _, _, rfl, by decide, rfl, qCk_4, rfl⟩⟩
  · cases hG

