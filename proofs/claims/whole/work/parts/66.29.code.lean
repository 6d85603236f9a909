/-! methods (by program): X5_takeConditions, X6_takeSemicolon, X5_takeAct, X5_takeText, X6_faultKind, X6_faultPlace, X7_slotsNotAheadOf, X7_takeText, X8_addFour, X8_cut, X11_isMinute, X9_canBeAt, X9_add, X9_knownAt, X10_draft, X10_keepDraft, X10_linesOf, X10_setFollowed, X10_habitsOf -/
theorem ml_X5_60 : Jvm.Cond.methodLink RX5 60 yX6_fail ∈ qTw := qm3 (List.mem_of_getElem? (i := 153) (by decide +kernel)) (by decide +kernel)
theorem kd_X5_60 {C : qCx} {w : qWp} {cc : ByteArray} {nL dp n0 n1 pc : Nat} (h : qOk C w RX5 cc nL dp n0 n1) (d : decode cc pc = .ok (.invokevirtual 60, 3)) : qCallOk C w nL dp n0 n1 pc 2 1 yX6_fail (.code yX6_fail cX6_fail 2 (some .int)) := kindV h d ml_X5_60 im_X6_fail se_X6_fail in_ParentEve_Reader co_X6_fail yk_X6_fail (by decide)
theorem im_X5_takeCondition : Jvm.Cond.instanceMethod yX5_takeCondition ∈ qTw := qm3 (List.mem_of_getElem? (i := 160) (by decide +kernel)) (by decide +kernel)
theorem se_X5_takeCondition : Jvm.Cond.selects yX5_takeCondition.cls yX5_takeCondition yX5_takeCondition ∈ qTw := List.mem_filter.mpr ⟨List.mem_append_left _ (List.mem_of_getElem? (i := 3) (by decide +kernel)), rfl⟩
theorem co_X5_takeCondition : Jvm.Cond.code yX5_takeCondition cX5_takeCondition 3 (some .boolean) ∈ qTw := qm3 (List.mem_of_getElem? (i := 161) (by decide +kernel)) (by decide +kernel)
theorem yk_X5_takeCondition : qYk yX5_takeCondition 2 := ⟨⟨by decide +kernel, by decide +kernel⟩, by decide +kernel⟩
theorem ml_X5_71 : Jvm.Cond.methodLink RX5 71 yX5_takeCondition ∈ qTw := qm3 (List.mem_of_getElem? (i := 158) (by decide +kernel)) (by decide +kernel)
theorem kd_X5_71 {C : qCx} {w : qWp} {cc : ByteArray} {nL dp n0 n1 pc : Nat} (h : qOk C w RX5 cc nL dp n0 n1) (d : decode cc pc = .ok (.invokevirtual 71, 3)) : qCallOk C w nL dp n0 n1 pc 3 1 yX5_takeCondition (.code yX5_takeCondition cX5_takeCondition 3 (some .boolean)) := kindV h d ml_X5_71 im_X5_takeCondition se_X5_takeCondition in_ParentEve_Policy co_X5_takeCondition yk_X5_takeCondition (by decide)
theorem fs_X5_74 : (RX5, 74, "do and", 10104) ∈ qStr := by decide +kernel
theorem dX5_takeConditions_0 : decode cX5_takeConditions 0 = .ok (.iconst 0, 1) := by decide +kernel
theorem dX5_takeConditions_1 : decode cX5_takeConditions 1 = .ok (.istore_n 3, 1) := by decide +kernel
theorem dX5_takeConditions_2 : decode cX5_takeConditions 2 = .ok (.iload_n 3, 1) := by decide +kernel
theorem dX5_takeConditions_3 : decode cX5_takeConditions 3 = .ok (.iconst 4, 1) := by decide +kernel
theorem dX5_takeConditions_4 : decode cX5_takeConditions 4 = .ok (.if_icmp .ge 58, 3) := by decide +kernel
theorem dX5_takeConditions_7 : decode cX5_takeConditions 7 = .ok (.aload_n 0, 1) := by decide +kernel
theorem dX5_takeConditions_8 : decode cX5_takeConditions 8 = .ok (.aload_n 1, 1) := by decide +kernel
theorem dX5_takeConditions_9 : decode cX5_takeConditions 9 = .ok (.iload_n 2, 1) := by decide +kernel
theorem dX5_takeConditions_10 : decode cX5_takeConditions 10 = .ok (.iconst 4, 1) := by decide +kernel
theorem dX5_takeConditions_11 : decode cX5_takeConditions 11 = .ok (.imul, 1) := by decide +kernel
theorem dX5_takeConditions_12 : decode cX5_takeConditions 12 = .ok (.iload_n 3, 1) := by decide +kernel
theorem dX5_takeConditions_13 : decode cX5_takeConditions 13 = .ok (.iadd, 1) := by decide +kernel
theorem dX5_takeConditions_14 : decode cX5_takeConditions 14 = .ok (.invokevirtual 71, 3) := by decide +kernel
theorem dX5_takeConditions_17 : decode cX5_takeConditions 17 = .ok (.ifCond .ne 5, 3) := by decide +kernel
theorem dX5_takeConditions_20 : decode cX5_takeConditions 20 = .ok (.iconst 0, 1) := by decide +kernel
theorem dX5_takeConditions_21 : decode cX5_takeConditions 21 = .ok (.ireturn, 1) := by decide +kernel
theorem dX5_takeConditions_22 : decode cX5_takeConditions 22 = .ok (.aload_n 0, 1) := by decide +kernel
theorem dX5_takeConditions_23 : decode cX5_takeConditions 23 = .ok (.getfield 9, 3) := by decide +kernel
theorem dX5_takeConditions_26 : decode cX5_takeConditions 26 = .ok (.iload_n 2, 1) := by decide +kernel
theorem dX5_takeConditions_27 : decode cX5_takeConditions 27 = .ok (.iload_n 3, 1) := by decide +kernel
theorem dX5_takeConditions_28 : decode cX5_takeConditions 28 = .ok (.iconst 1, 1) := by decide +kernel
theorem dX5_takeConditions_29 : decode cX5_takeConditions 29 = .ok (.iadd, 1) := by decide +kernel
theorem dX5_takeConditions_30 : decode cX5_takeConditions 30 = .ok (.iastore, 1) := by decide +kernel
theorem dX5_takeConditions_31 : decode cX5_takeConditions 31 = .ok (.aload_n 1, 1) := by decide +kernel
theorem dX5_takeConditions_32 : decode cX5_takeConditions 32 = .ok (.ldc 74, 2) := by decide +kernel
theorem dX5_takeConditions_34 : decode cX5_takeConditions 34 = .ok (.invokevirtual 76, 3) := by decide +kernel
theorem dX5_takeConditions_37 : decode cX5_takeConditions 37 = .ok (.istore 4, 2) := by decide +kernel
theorem dX5_takeConditions_39 : decode cX5_takeConditions 39 = .ok (.iload 4, 2) := by decide +kernel
theorem dX5_takeConditions_41 : decode cX5_takeConditions 41 = .ok (.iconst 1, 1) := by decide +kernel
theorem dX5_takeConditions_42 : decode cX5_takeConditions 42 = .ok (.if_icmp .eq 14, 3) := by decide +kernel
theorem dX5_takeConditions_45 : decode cX5_takeConditions 45 = .ok (.iload 4, 2) := by decide +kernel
theorem dX5_takeConditions_47 : decode cX5_takeConditions 47 = .ok (.ifCond .ne 7, 3) := by decide +kernel
theorem dX5_takeConditions_50 : decode cX5_takeConditions 50 = .ok (.iconst 1, 1) := by decide +kernel
theorem dX5_takeConditions_51 : decode cX5_takeConditions 51 = .ok (.goto 4, 3) := by decide +kernel
theorem dX5_takeConditions_54 : decode cX5_takeConditions 54 = .ok (.iconst 0, 1) := by decide +kernel
theorem dX5_takeConditions_55 : decode cX5_takeConditions 55 = .ok (.ireturn, 1) := by decide +kernel
theorem dX5_takeConditions_56 : decode cX5_takeConditions 56 = .ok (.iinc 3 1, 3) := by decide +kernel
theorem dX5_takeConditions_59 : decode cX5_takeConditions 59 = .ok (.goto (-57), 3) := by decide +kernel
theorem dX5_takeConditions_62 : decode cX5_takeConditions 62 = .ok (.aload_n 1, 1) := by decide +kernel
theorem dX5_takeConditions_63 : decode cX5_takeConditions 63 = .ok (.iconst 4, 1) := by decide +kernel
theorem dX5_takeConditions_64 : decode cX5_takeConditions 64 = .ok (.invokevirtual 60, 3) := by decide +kernel
theorem dX5_takeConditions_67 : decode cX5_takeConditions 67 = .ok (.pop, 1) := by decide +kernel
theorem dX5_takeConditions_68 : decode cX5_takeConditions 68 = .ok (.iconst 0, 1) := by decide +kernel
theorem dX5_takeConditions_69 : decode cX5_takeConditions 69 = .ok (.ireturn, 1) := by decide +kernel
noncomputable def tX5_takeConditions_2 (r : Nat) (j2 : qT (Int32 × qM)) (j35 : qT (Int32 × qM)) : qT (Int32 × qM) :=
  oLi 3 (oC (.int (4 : Int32)) (oCGe (oLa 1 (oC (.int (4 : Int32)) (oCi GX6_fail 2 (oPop (oC (.int (0 : Int32)) (eZ)))))) (oLa 0 (oLa 1 (oLi 2 (oC (.int (4 : Int32)) (o2 (· * ·) (oLi 3 (o2 (· + ·) (oCi GX5_takeCondition 3 (oEq (oC (.int (0 : Int32)) (eZ)) (oLa 0 (oGf r 0 (r + 1) (oLi 2 (oLi 3 (oC (.int (1 : Int32)) (o2 (· + ·) (oWi (r + 1) 8 (oLa 1 (oC (.ref 10104) (oCi GX6_takeWordOf 2 (oSi 4 (oLi 4 (oC (.int (1 : Int32)) (oCEq (oInc 3 (1 : Int32) (j2)) (oLi 4 (oEq (oC (.int (1 : Int32)) (j35)) (oC (.int (0 : Int32)) (j35)))))))))))))))))))))))))))))
noncomputable def wX5_takeConditions_2 (r : Nat) (k : Int32 → Int32 → qM → Option (Int32 × qM)) : qT (Int32 × qM) := fun lo st m => match lo, st with
  | [some (.ref q0), some (.ref 3), some (.int a2), some (.int a3), _], [] => bif Nat.beq q0 r then k a2 a3 m else none
  | _, _ => none
noncomputable def wX5_takeConditions_35 (r : Nat) (k : Int32 → qM → Option (Int32 × qM)) : qT (Int32 × qM) := fun lo st m => match lo, st with
  | [_, _, _, _, _], [.int s0] => k s0 m
  | _, _ => none
set_option maxRecDepth 20000 in
theorem sX5_takeConditions_2 {C : qCx} {w : qWp} {r : Nat} (h : qOk C w RX5 cX5_takeConditions 5 8 155 155) (hm : qMt C (some .boolean)) (hx : qNx C) (hr : qpol r = true) {j2 : qT (Int32 × qM)} {j35 : qT (Int32 × qM)} (k2 : qSnd C w 5 155 (qQf C w 155 155 jI) qfin 155 2 j2) (k35 : qSnd C w 5 155 (qQf C w 155 155 jI) qfin 155 55 j35) : qSnd C w 5 155 (qQf C w 155 155 jI) qfin 155 2 (tX5_takeConditions_2 r j2 j35) :=
  cLi (pc := 2) h dX5_takeConditions_2 rfl (cC (pc := 3) h dX5_takeConditions_3 rfl (jCGe (pc := 4) h dX5_takeConditions_4 rfl (cLa (pc := 62) h dX5_takeConditions_62 rfl (cC (pc := 63) h dX5_takeConditions_63 rfl (kCi (pc := 64) h (kd_X5_60 h dX5_takeConditions_64) spX6_fail (by decide) (by decide) (by decide) (by decide) (aPop (pc := 67) h dX5_takeConditions_67 (cC (pc := 68) h dX5_takeConditions_68 rfl (zZ (pc := 69) h hm (Nat.le_refl _) dX5_takeConditions_69)))))) (cLa (pc := 7) h dX5_takeConditions_7 rfl (cLa (pc := 8) h dX5_takeConditions_8 rfl (cLi (pc := 9) h dX5_takeConditions_9 rfl (cC (pc := 10) h dX5_takeConditions_10 rfl (aMul (pc := 11) h dX5_takeConditions_11 (cLi (pc := 12) h dX5_takeConditions_12 rfl (aAdd (pc := 13) h dX5_takeConditions_13 (kCi (pc := 14) h (kd_X5_71 h dX5_takeConditions_14) spX5_takeCondition (by decide) (by decide) (by decide) (by decide) (jNe (pc := 17) h dX5_takeConditions_17 rfl (cLa (pc := 22) h dX5_takeConditions_22 rfl (gGf (pc := 23) h dX5_takeConditions_23 (ffp_X5_9_0 hr) (fp_hn_0 hr) (by decide) (fp_fin_0 hr) (cLi (pc := 26) h dX5_takeConditions_26 rfl (cLi (pc := 27) h dX5_takeConditions_27 rfl (cC (pc := 28) h dX5_takeConditions_28 rfl (aAdd (pc := 29) h dX5_takeConditions_29 (rWi (pc := 30) h dX5_takeConditions_30 (fp_hs_1 hr) (fp_hn_1 hr) (by decide) (cLa (pc := 31) h dX5_takeConditions_31 rfl (cStr (pc := 32) h dX5_takeConditions_32 fs_X5_74 (kCi (pc := 34) h (kd_X5_76 h dX5_takeConditions_34) spX6_takeWordOf (by decide) (by decide) (by decide) (by decide) (cSI (pc := 37) h dX5_takeConditions_37 (cLI (pc := 39) h dX5_takeConditions_39 (cC (pc := 41) h dX5_takeConditions_41 rfl (jCEq (pc := 42) h dX5_takeConditions_42 rfl (cInc (pc := 56) h dX5_takeConditions_56 rfl (jGo (pc := 59) h dX5_takeConditions_59 rfl (k2))) (cLI (pc := 45) h dX5_takeConditions_45 (jNe (pc := 47) h dX5_takeConditions_47 rfl (cC (pc := 54) h dX5_takeConditions_54 rfl (k35)) (cC (pc := 50) h dX5_takeConditions_50 rfl (jGo (pc := 51) h dX5_takeConditions_51 rfl (k35))))))))))))))))))) (cC (pc := 20) h dX5_takeConditions_20 rfl (zZ (pc := 21) h hm (Nat.le_refl _) dX5_takeConditions_21)))))))))))))
set_option maxRecDepth 20000 in
theorem lX5_takeConditions_2 (r : Nat) (hr : qpol r = true) (k35 : Int32 → qM → Option (Int32 × qM)) (n : Nat) (a2 : Int32) (a3 : Int32) (m : qM) : tX5_takeConditions_2 r (wX5_takeConditions_2 r ((fX5_takeConditions_2 r k35 n))) (wX5_takeConditions_35 r k35) [some (.ref r), some (.ref 3), some (.int a2), some (.int a3), none] [] m = fX5_takeConditions_2 r k35 (n + 1) a2 a3 m := by
  rcases qpol_cases hr with rfl | rfl | rfl | rfl | rfl <;> rfl
theorem bX5_takeConditions_2 {C : qCx} {w : qWp} {r : Nat} (h : qOk C w RX5 cX5_takeConditions 5 8 155 155) (hm : qMt C (some .boolean)) (hx : qNx C) (hr : qpol r = true) {k35 : Int32 → qM → Option (Int32 × qM)} (h35 : qSnd C w 5 155 (qQf C w 155 155 jI) qfin 155 55 (wX5_takeConditions_35 r k35)) : ∀ n : Nat, qSnd C w 5 155 (qQf C w 155 155 jI) qfin 155 2 (wX5_takeConditions_2 r (fX5_takeConditions_2 r k35 n))
  | 0 => qSnd_of0 (fun lo st m x hr0 => by
    unfold wX5_takeConditions_2 at hr0
    split at hr0
    · cases (qbeq hr0).2
    · cases hr0)
  | n + 1 => by
    have ih := bX5_takeConditions_2 h hm hx hr h35 n
    exact qSnd_of (fun lo st m x hr0 => by
    unfold wX5_takeConditions_2 at hr0
    split at hr0
    · have he := (qbeq hr0).1
      have hr1 := (qbeq hr0).2
      rw [he]
      exact ⟨_, (qsub_e (qsub_e (qsub_e (qsub_e (qsub_n qsub_nil))))), (lX5_takeConditions_2 r hr _ n _ _ _).trans hr1⟩
    · cases hr0) (sX5_takeConditions_2 h hm hx hr ih h35)
noncomputable def tX5_takeConditions_35 (r : Nat) : qT (Int32 × qM) :=
  eZ
set_option maxRecDepth 20000 in
theorem sX5_takeConditions_35 {C : qCx} {w : qWp} {r : Nat} (h : qOk C w RX5 cX5_takeConditions 5 8 155 155) (hm : qMt C (some .boolean)) (hx : qNx C) (hr : qpol r = true) : qSnd C w 5 155 (qQf C w 155 155 jI) qfin 155 55 (tX5_takeConditions_35 r) :=
  zZ (pc := 55) h hm (Nat.le_refl _) dX5_takeConditions_55
set_option maxRecDepth 20000 in
theorem lX5_takeConditions_35 (r : Nat) (hr : qpol r = true) (s0 : Int32) (m : qM) : tX5_takeConditions_35 r [none, none, none, none, none] [(.int s0)] m = fX5_takeConditions_35 r s0 m := by
  rcases qpol_cases hr with rfl | rfl | rfl | rfl | rfl <;> rfl
theorem bX5_takeConditions_35 {C : qCx} {w : qWp} {r : Nat} (h : qOk C w RX5 cX5_takeConditions 5 8 155 155) (hm : qMt C (some .boolean)) (hx : qNx C) (hr : qpol r = true) : qSnd C w 5 155 (qQf C w 155 155 jI) qfin 155 55 (wX5_takeConditions_35 r (fX5_takeConditions_35 r)) :=
  qSnd_of (fun lo st m x hr0 => by
    unfold wX5_takeConditions_35 at hr0
    split at hr0
    · exact ⟨_, (qsub_n (qsub_n (qsub_n (qsub_n (qsub_n qsub_nil))))), (lX5_takeConditions_35 r hr _ _).trans hr0⟩
    · cases hr0) (sX5_takeConditions_35 h hm hx hr)
noncomputable def tX5_takeConditions_0 (r : Nat) (j2 : qT (Int32 × qM)) : qT (Int32 × qM) :=
  oC (.int (0 : Int32)) (oSi 3 (j2))
set_option maxRecDepth 20000 in
theorem sX5_takeConditions_0 {C : qCx} {w : qWp} {r : Nat} (h : qOk C w RX5 cX5_takeConditions 5 8 155 155) (hm : qMt C (some .boolean)) (hx : qNx C) (hr : qpol r = true) {j2 : qT (Int32 × qM)} (k2 : qSnd C w 5 155 (qQf C w 155 155 jI) qfin 155 2 j2) : qSnd C w 5 155 (qQf C w 155 155 jI) qfin 155 0 (tX5_takeConditions_0 r j2) :=
  cC (pc := 0) h dX5_takeConditions_0 rfl (cSi (pc := 1) h dX5_takeConditions_1 rfl (k2))
set_option maxRecDepth 20000 in
theorem lX5_takeConditions_0 (r : Nat) (hr : qpol r = true) (a2 : Int32) (m : qM) : tX5_takeConditions_0 r (wX5_takeConditions_2 r (fX5_takeConditions_2 r (fX5_takeConditions_35 r) FU)) [some (.ref r), some (.ref 3), some (.int a2), none, none] [] m = fX5_takeConditions_0 r a2 m := by
  rcases qpol_cases hr with rfl | rfl | rfl | rfl | rfl <;> rfl
noncomputable def GX5_takeConditions : qG Int32 := fun av m => match av with
  | [.ref r, .ref 3, .int a2] => bif qpol r then fX5_takeConditions r a2 m else none
  | _ => none
theorem spX5_takeConditions : qSpI yX5_takeConditions (.code yX5_takeConditions cX5_takeConditions 5 (some .boolean)) 8 qfin 155 155 1 GX5_takeConditions := by
  intro av m x m' hG
  unfold GX5_takeConditions at hG
  split at hG
  · rename_i r a2
    obtain ⟨hr, hG⟩ := qbt hG
    rw [fX5_takeConditions_d] at hG
    exact ⟨qmeet (J := jI) (r := (x, m')) (av := [.ref r, .ref 3, .int a2]) (by decide +kernel) (Nat.le_of_ble_eq_true rfl) (fun C w h hm hx hn => sX5_takeConditions_0 h hm hx hr (bX5_takeConditions_2 h hm hx hr (bX5_takeConditions_35 h hm hx hr) FU)) ((lX5_takeConditions_0 _ hr _ _).trans hG) (Nat.le_of_ble_eq_true rfl), qRc_pol hr rfl⟩
  · cases hG
theorem dX6_takeSemicolon_0 : decode cX6_takeSemicolon 0 = .ok (.aload_n 0, 1) := by decide +kernel
theorem dX6_takeSemicolon_1 : decode cX6_takeSemicolon 1 = .ok (.invokevirtual 64, 3) := by decide +kernel
theorem dX6_takeSemicolon_4 : decode cX6_takeSemicolon 4 = .ok (.aload_n 0, 1) := by decide +kernel
theorem dX6_takeSemicolon_5 : decode cX6_takeSemicolon 5 = .ok (.getfield 11, 3) := by decide +kernel
theorem dX6_takeSemicolon_8 : decode cX6_takeSemicolon 8 = .ok (.iconst 3, 1) := by decide +kernel
theorem dX6_takeSemicolon_9 : decode cX6_takeSemicolon 9 = .ok (.if_icmp .eq 9, 3) := by decide +kernel
theorem dX6_takeSemicolon_12 : decode cX6_takeSemicolon 12 = .ok (.aload_n 0, 1) := by decide +kernel
theorem dX6_takeSemicolon_13 : decode cX6_takeSemicolon 13 = .ok (.iconst 1, 1) := by decide +kernel
theorem dX6_takeSemicolon_14 : decode cX6_takeSemicolon 14 = .ok (.invokevirtual 71, 3) := by decide +kernel
theorem dX6_takeSemicolon_17 : decode cX6_takeSemicolon 17 = .ok (.pop, 1) := by decide +kernel
theorem dX6_takeSemicolon_18 : decode cX6_takeSemicolon 18 = .ok (.aload_n 0, 1) := by decide +kernel
theorem dX6_takeSemicolon_19 : decode cX6_takeSemicolon 19 = .ok (.getfield 11, 3) := by decide +kernel
theorem dX6_takeSemicolon_22 : decode cX6_takeSemicolon 22 = .ok (.iconst 3, 1) := by decide +kernel
theorem dX6_takeSemicolon_23 : decode cX6_takeSemicolon 23 = .ok (.if_icmp .ne 7, 3) := by decide +kernel
theorem dX6_takeSemicolon_26 : decode cX6_takeSemicolon 26 = .ok (.iconst 1, 1) := by decide +kernel
theorem dX6_takeSemicolon_27 : decode cX6_takeSemicolon 27 = .ok (.goto 4, 3) := by decide +kernel
theorem dX6_takeSemicolon_30 : decode cX6_takeSemicolon 30 = .ok (.iconst 0, 1) := by decide +kernel
theorem dX6_takeSemicolon_31 : decode cX6_takeSemicolon 31 = .ok (.ireturn, 1) := by decide +kernel
noncomputable def tX6_takeSemicolon_17 : qT (Int32 × qM) :=
  eZ
noncomputable def wX6_takeSemicolon_17 (k : Int32 → qM → Option (Int32 × qM)) : qT (Int32 × qM) := fun lo st m => match lo, st with
  | [_], [.int s0] => k s0 m
  | _, _ => none
set_option maxRecDepth 20000 in
theorem sX6_takeSemicolon_17 {C : qCx} {w : qWp} (h : qOk C w RX6 cX6_takeSemicolon 1 3 155 155) (hm : qMt C (some .boolean)) (hx : qNx C) : qSnd C w 1 155 (qQf C w 155 155 jI) qfin 155 31 (tX6_takeSemicolon_17) :=
  zZ (pc := 31) h hm (Nat.le_refl _) dX6_takeSemicolon_31
set_option maxRecDepth 20000 in
theorem lX6_takeSemicolon_17 (s0 : Int32) (m : qM) : tX6_takeSemicolon_17 [none] [(.int s0)] m = fX6_takeSemicolon_17 s0 m := rfl
theorem bX6_takeSemicolon_17 {C : qCx} {w : qWp} (h : qOk C w RX6 cX6_takeSemicolon 1 3 155 155) (hm : qMt C (some .boolean)) (hx : qNx C) : qSnd C w 1 155 (qQf C w 155 155 jI) qfin 155 31 (wX6_takeSemicolon_17 fX6_takeSemicolon_17) :=
  qSnd_of (fun lo st m x hr0 => by
    unfold wX6_takeSemicolon_17 at hr0
    split at hr0
    · exact ⟨_, (qsub_n qsub_nil), (lX6_takeSemicolon_17 _ _).trans hr0⟩
    · cases hr0) (sX6_takeSemicolon_17 h hm hx)
noncomputable def tX6_takeSemicolon_10 (j17 : qT (Int32 × qM)) : qT (Int32 × qM) :=
  oLa 0 (oGi 3 1 (oC (.int (3 : Int32)) (oCEq (oC (.int (1 : Int32)) (j17)) (oC (.int (0 : Int32)) (j17)))))
noncomputable def wX6_takeSemicolon_10 (k : qM → Option (Int32 × qM)) : qT (Int32 × qM) := fun lo st m => match lo, st with
  | [some (.ref 3)], [] => k m
  | _, _ => none
set_option maxRecDepth 20000 in
theorem sX6_takeSemicolon_10 {C : qCx} {w : qWp} (h : qOk C w RX6 cX6_takeSemicolon 1 3 155 155) (hm : qMt C (some .boolean)) (hx : qNx C) {j17 : qT (Int32 × qM)} (k17 : qSnd C w 1 155 (qQf C w 155 155 jI) qfin 155 31 j17) : qSnd C w 1 155 (qQf C w 155 155 jI) qfin 155 18 (tX6_takeSemicolon_10 j17) :=
  cLa (pc := 18) h dX6_takeSemicolon_18 rfl (gGi (pc := 19) h dX6_takeSemicolon_19 ff_X6_11_3 (Nat.le_of_ble_eq_true rfl) (Nat.le_of_ble_eq_true rfl) (cC (pc := 22) h dX6_takeSemicolon_22 rfl (jCNe (pc := 23) h dX6_takeSemicolon_23 rfl (cC (pc := 30) h dX6_takeSemicolon_30 rfl (k17)) (cC (pc := 26) h dX6_takeSemicolon_26 rfl (jGo (pc := 27) h dX6_takeSemicolon_27 rfl (k17))))))
set_option maxRecDepth 20000 in
theorem lX6_takeSemicolon_10 (m : qM) : tX6_takeSemicolon_10 (wX6_takeSemicolon_17 fX6_takeSemicolon_17) [some (.ref 3)] [] m = fX6_takeSemicolon_10 m := rfl
theorem bX6_takeSemicolon_10 {C : qCx} {w : qWp} (h : qOk C w RX6 cX6_takeSemicolon 1 3 155 155) (hm : qMt C (some .boolean)) (hx : qNx C) : qSnd C w 1 155 (qQf C w 155 155 jI) qfin 155 18 (wX6_takeSemicolon_10 fX6_takeSemicolon_10) :=
  qSnd_of (fun lo st m x hr0 => by
    unfold wX6_takeSemicolon_10 at hr0
    split at hr0
    · exact ⟨_, (qsub_e qsub_nil), (lX6_takeSemicolon_10 _).trans hr0⟩
    · cases hr0) (sX6_takeSemicolon_10 h hm hx (bX6_takeSemicolon_17 h hm hx))
noncomputable def tX6_takeSemicolon_0 (j10 : qT (Int32 × qM)) : qT (Int32 × qM) :=
  oLa 0 (oCv GX6_step 1 (oLa 0 (oGi 3 1 (oC (.int (3 : Int32)) (oCEq (j10) (oLa 0 (oC (.int (1 : Int32)) (oCi GX6_fail 2 (oPop (j10))))))))))
set_option maxRecDepth 20000 in
theorem sX6_takeSemicolon_0 {C : qCx} {w : qWp} (h : qOk C w RX6 cX6_takeSemicolon 1 3 155 155) (hm : qMt C (some .boolean)) (hx : qNx C) {j10 : qT (Int32 × qM)} (k10 : qSnd C w 1 155 (qQf C w 155 155 jI) qfin 155 18 j10) : qSnd C w 1 155 (qQf C w 155 155 jI) qfin 155 0 (tX6_takeSemicolon_0 j10) :=
  cLa (pc := 0) h dX6_takeSemicolon_0 rfl (kCv (pc := 1) h (kd_X6_64 h dX6_takeSemicolon_1) spX6_step (by decide) (by decide) (by decide) (by decide) (cLa (pc := 4) h dX6_takeSemicolon_4 rfl (gGi (pc := 5) h dX6_takeSemicolon_5 ff_X6_11_3 (Nat.le_of_ble_eq_true rfl) (Nat.le_of_ble_eq_true rfl) (cC (pc := 8) h dX6_takeSemicolon_8 rfl (jCEq (pc := 9) h dX6_takeSemicolon_9 rfl (k10) (cLa (pc := 12) h dX6_takeSemicolon_12 rfl (cC (pc := 13) h dX6_takeSemicolon_13 rfl (kCi (pc := 14) h (kd_X6_71 h dX6_takeSemicolon_14) spX6_fail (by decide) (by decide) (by decide) (by decide) (aPop (pc := 17) h dX6_takeSemicolon_17 (k10))))))))))
set_option maxRecDepth 20000 in
theorem lX6_takeSemicolon_0 (m : qM) : tX6_takeSemicolon_0 (wX6_takeSemicolon_10 fX6_takeSemicolon_10) [some (.ref 3)] [] m = fX6_takeSemicolon_0 m := rfl
noncomputable def GX6_takeSemicolon : qG Int32 := fun av m => match av with
  | [.ref 3] => fX6_takeSemicolon m
  | _ => none
theorem spX6_takeSemicolon : qSpI yX6_takeSemicolon (.code yX6_takeSemicolon cX6_takeSemicolon 1 (some .boolean)) 3 qfin 155 155 1 GX6_takeSemicolon := by
  intro av m x m' hG
  unfold GX6_takeSemicolon at hG
  split at hG
  · rw [fX6_takeSemicolon_d] at hG
    exact ⟨qmeet (J := jI) (r := (x, m')) (av := [.ref 3]) (by decide +kernel) (Nat.le_of_ble_eq_true rfl) (fun C w h hm hx hn => sX6_takeSemicolon_0 h hm hx (bX6_takeSemicolon_10 h hm hx)) ((lX6_takeSemicolon_0 _).trans hG) (Nat.le_of_ble_eq_true rfl), Or.inl ⟨3, _, 6, _, _, rfl, by decide, rfl, qCk_6, rfl⟩⟩
  · cases hG
theorem fs_X5_87 : (RX5, 87, "skip full wait swap short pause", 10105) ∈ qStr := by decide +kernel
theorem im_X6_takeSemicolon : Jvm.Cond.instanceMethod yX6_takeSemicolon ∈ qTw := qm3 (List.mem_of_getElem? (i := 109) (by decide +kernel)) (by decide +kernel)
theorem se_X6_takeSemicolon : Jvm.Cond.selects yX6_takeSemicolon.cls yX6_takeSemicolon yX6_takeSemicolon ∈ qTw := qm3 (List.mem_of_getElem? (i := 110) (by decide +kernel)) (by decide +kernel)
theorem co_X6_takeSemicolon : Jvm.Cond.code yX6_takeSemicolon cX6_takeSemicolon 1 (some .boolean) ∈ qTw := qm3 (List.mem_of_getElem? (i := 111) (by decide +kernel)) (by decide +kernel)
theorem yk_X6_takeSemicolon : qYk yX6_takeSemicolon 0 := ⟨⟨by decide +kernel, by decide +kernel⟩, by decide +kernel⟩
theorem ml_X5_89 : Jvm.Cond.methodLink RX5 89 yX6_takeSemicolon ∈ qTw := qm3 (List.mem_of_getElem? (i := 176) (by decide +kernel)) (by decide +kernel)
theorem kd_X5_89 {C : qCx} {w : qWp} {cc : ByteArray} {nL dp n0 n1 pc : Nat} (h : qOk C w RX5 cc nL dp n0 n1) (d : decode cc pc = .ok (.invokevirtual 89, 3)) : qCallOk C w nL dp n0 n1 pc 1 1 yX6_takeSemicolon (.code yX6_takeSemicolon cX6_takeSemicolon 1 (some .boolean)) := kindV h d ml_X5_89 im_X6_takeSemicolon se_X6_takeSemicolon in_ParentEve_Reader co_X6_takeSemicolon yk_X6_takeSemicolon (by decide)
theorem dX5_takeAct_0 : decode cX5_takeAct 0 = .ok (.aload_n 0, 1) := by decide +kernel
theorem dX5_takeAct_1 : decode cX5_takeAct 1 = .ok (.getfield 24, 3) := by decide +kernel
theorem dX5_takeAct_4 : decode cX5_takeAct 4 = .ok (.iload_n 2, 1) := by decide +kernel
theorem dX5_takeAct_5 : decode cX5_takeAct 5 = .ok (.aload_n 1, 1) := by decide +kernel
theorem dX5_takeAct_6 : decode cX5_takeAct 6 = .ok (.ldc 87, 2) := by decide +kernel
theorem dX5_takeAct_8 : decode cX5_takeAct 8 = .ok (.invokevirtual 76, 3) := by decide +kernel
theorem dX5_takeAct_11 : decode cX5_takeAct 11 = .ok (.iastore, 1) := by decide +kernel
theorem dX5_takeAct_12 : decode cX5_takeAct 12 = .ok (.aload_n 0, 1) := by decide +kernel
theorem dX5_takeAct_13 : decode cX5_takeAct 13 = .ok (.getfield 24, 3) := by decide +kernel
theorem dX5_takeAct_16 : decode cX5_takeAct 16 = .ok (.iload_n 2, 1) := by decide +kernel
theorem dX5_takeAct_17 : decode cX5_takeAct 17 = .ok (.iaload, 1) := by decide +kernel
theorem dX5_takeAct_18 : decode cX5_takeAct 18 = .ok (.iconst (-1), 1) := by decide +kernel
theorem dX5_takeAct_19 : decode cX5_takeAct 19 = .ok (.if_icmp .ne 5, 3) := by decide +kernel
theorem dX5_takeAct_22 : decode cX5_takeAct 22 = .ok (.iconst 0, 1) := by decide +kernel
theorem dX5_takeAct_23 : decode cX5_takeAct 23 = .ok (.ireturn, 1) := by decide +kernel
theorem dX5_takeAct_24 : decode cX5_takeAct 24 = .ok (.aload_n 0, 1) := by decide +kernel
theorem dX5_takeAct_25 : decode cX5_takeAct 25 = .ok (.getfield 27, 3) := by decide +kernel
theorem dX5_takeAct_28 : decode cX5_takeAct 28 = .ok (.iload_n 2, 1) := by decide +kernel
theorem dX5_takeAct_29 : decode cX5_takeAct 29 = .ok (.iconst 0, 1) := by decide +kernel
theorem dX5_takeAct_30 : decode cX5_takeAct 30 = .ok (.iastore, 1) := by decide +kernel
theorem dX5_takeAct_31 : decode cX5_takeAct 31 = .ok (.aload_n 0, 1) := by decide +kernel
theorem dX5_takeAct_32 : decode cX5_takeAct 32 = .ok (.getfield 24, 3) := by decide +kernel
theorem dX5_takeAct_35 : decode cX5_takeAct 35 = .ok (.iload_n 2, 1) := by decide +kernel
theorem dX5_takeAct_36 : decode cX5_takeAct 36 = .ok (.iaload, 1) := by decide +kernel
theorem dX5_takeAct_37 : decode cX5_takeAct 37 = .ok (.iconst 4, 1) := by decide +kernel
theorem dX5_takeAct_38 : decode cX5_takeAct 38 = .ok (.if_icmp .eq 13, 3) := by decide +kernel
theorem dX5_takeAct_41 : decode cX5_takeAct 41 = .ok (.aload_n 0, 1) := by decide +kernel
theorem dX5_takeAct_42 : decode cX5_takeAct 42 = .ok (.getfield 24, 3) := by decide +kernel
theorem dX5_takeAct_45 : decode cX5_takeAct 45 = .ok (.iload_n 2, 1) := by decide +kernel
theorem dX5_takeAct_46 : decode cX5_takeAct 46 = .ok (.iaload, 1) := by decide +kernel
theorem dX5_takeAct_47 : decode cX5_takeAct 47 = .ok (.iconst 5, 1) := by decide +kernel
theorem dX5_takeAct_48 : decode cX5_takeAct 48 = .ok (.if_icmp .ne 16, 3) := by decide +kernel
theorem dX5_takeAct_51 : decode cX5_takeAct 51 = .ok (.aload_n 0, 1) := by decide +kernel
theorem dX5_takeAct_52 : decode cX5_takeAct 52 = .ok (.getfield 27, 3) := by decide +kernel
theorem dX5_takeAct_55 : decode cX5_takeAct 55 = .ok (.iload_n 2, 1) := by decide +kernel
theorem dX5_takeAct_56 : decode cX5_takeAct 56 = .ok (.aload_n 1, 1) := by decide +kernel
theorem dX5_takeAct_57 : decode cX5_takeAct 57 = .ok (.iconst 1, 1) := by decide +kernel
theorem dX5_takeAct_58 : decode cX5_takeAct 58 = .ok (.bipush 30, 2) := by decide +kernel
theorem dX5_takeAct_60 : decode cX5_takeAct 60 = .ok (.invokevirtual 83, 3) := by decide +kernel
theorem dX5_takeAct_63 : decode cX5_takeAct 63 = .ok (.iastore, 1) := by decide +kernel
theorem dX5_takeAct_64 : decode cX5_takeAct 64 = .ok (.aload_n 0, 1) := by decide +kernel
theorem dX5_takeAct_65 : decode cX5_takeAct 65 = .ok (.getfield 27, 3) := by decide +kernel
theorem dX5_takeAct_68 : decode cX5_takeAct 68 = .ok (.iload_n 2, 1) := by decide +kernel
theorem dX5_takeAct_69 : decode cX5_takeAct 69 = .ok (.iaload, 1) := by decide +kernel
theorem dX5_takeAct_70 : decode cX5_takeAct 70 = .ok (.iconst (-1), 1) := by decide +kernel
theorem dX5_takeAct_71 : decode cX5_takeAct 71 = .ok (.if_icmp .eq 14, 3) := by decide +kernel
theorem dX5_takeAct_74 : decode cX5_takeAct 74 = .ok (.aload_n 1, 1) := by decide +kernel
theorem dX5_takeAct_75 : decode cX5_takeAct 75 = .ok (.invokevirtual 89, 3) := by decide +kernel
theorem dX5_takeAct_78 : decode cX5_takeAct 78 = .ok (.ifCond .eq 7, 3) := by decide +kernel
theorem dX5_takeAct_81 : decode cX5_takeAct 81 = .ok (.iconst 1, 1) := by decide +kernel
theorem dX5_takeAct_82 : decode cX5_takeAct 82 = .ok (.goto 4, 3) := by decide +kernel
theorem dX5_takeAct_85 : decode cX5_takeAct 85 = .ok (.iconst 0, 1) := by decide +kernel
theorem dX5_takeAct_86 : decode cX5_takeAct 86 = .ok (.ireturn, 1) := by decide +kernel
noncomputable def tX5_takeAct_52 (r : Nat) : qT (Int32 × qM) :=
  eZ
noncomputable def wX5_takeAct_52 (r : Nat) (k : Int32 → qM → Option (Int32 × qM)) : qT (Int32 × qM) := fun lo st m => match lo, st with
  | [_, _, _], [.int s0] => k s0 m
  | _, _ => none
set_option maxRecDepth 20000 in
theorem sX5_takeAct_52 {C : qCx} {w : qWp} {r : Nat} (h : qOk C w RX5 cX5_takeAct 3 7 155 155) (hm : qMt C (some .boolean)) (hx : qNx C) (hr : qpol r = true) : qSnd C w 3 155 (qQf C w 155 155 jI) qfin 155 86 (tX5_takeAct_52 r) :=
  zZ (pc := 86) h hm (Nat.le_refl _) dX5_takeAct_86
set_option maxRecDepth 20000 in
theorem lX5_takeAct_52 (r : Nat) (hr : qpol r = true) (s0 : Int32) (m : qM) : tX5_takeAct_52 r [none, none, none] [(.int s0)] m = fX5_takeAct_52 r s0 m := by
  rcases qpol_cases hr with rfl | rfl | rfl | rfl | rfl <;> rfl
theorem bX5_takeAct_52 {C : qCx} {w : qWp} {r : Nat} (h : qOk C w RX5 cX5_takeAct 3 7 155 155) (hm : qMt C (some .boolean)) (hx : qNx C) (hr : qpol r = true) : qSnd C w 3 155 (qQf C w 155 155 jI) qfin 155 86 (wX5_takeAct_52 r (fX5_takeAct_52 r)) :=
  qSnd_of (fun lo st m x hr0 => by
    unfold wX5_takeAct_52 at hr0
    split at hr0
    · exact ⟨_, (qsub_n (qsub_n (qsub_n qsub_nil))), (lX5_takeAct_52 r hr _ _).trans hr0⟩
    · cases hr0) (sX5_takeAct_52 h hm hx hr)
noncomputable def tX5_takeAct_51 (r : Nat) (j52 : qT (Int32 × qM)) : qT (Int32 × qM) :=
  oC (.int (0 : Int32)) (j52)
noncomputable def wX5_takeAct_51 (r : Nat) (k : qM → Option (Int32 × qM)) : qT (Int32 × qM) := fun lo st m => match lo, st with
  | [_, _, _], [] => k m
  | _, _ => none
set_option maxRecDepth 20000 in
theorem sX5_takeAct_51 {C : qCx} {w : qWp} {r : Nat} (h : qOk C w RX5 cX5_takeAct 3 7 155 155) (hm : qMt C (some .boolean)) (hx : qNx C) (hr : qpol r = true) {j52 : qT (Int32 × qM)} (k52 : qSnd C w 3 155 (qQf C w 155 155 jI) qfin 155 86 j52) : qSnd C w 3 155 (qQf C w 155 155 jI) qfin 155 85 (tX5_takeAct_51 r j52) :=
  cC (pc := 85) h dX5_takeAct_85 rfl (k52)
set_option maxRecDepth 20000 in
theorem lX5_takeAct_51 (r : Nat) (hr : qpol r = true) (m : qM) : tX5_takeAct_51 r (wX5_takeAct_52 r (fX5_takeAct_52 r)) [none, none, none] [] m = fX5_takeAct_51 r m := by
  rcases qpol_cases hr with rfl | rfl | rfl | rfl | rfl <;> rfl
theorem bX5_takeAct_51 {C : qCx} {w : qWp} {r : Nat} (h : qOk C w RX5 cX5_takeAct 3 7 155 155) (hm : qMt C (some .boolean)) (hx : qNx C) (hr : qpol r = true) : qSnd C w 3 155 (qQf C w 155 155 jI) qfin 155 85 (wX5_takeAct_51 r (fX5_takeAct_51 r)) :=
  qSnd_of (fun lo st m x hr0 => by
    unfold wX5_takeAct_51 at hr0
    split at hr0
    · exact ⟨_, (qsub_n (qsub_n (qsub_n qsub_nil))), (lX5_takeAct_51 r hr _).trans hr0⟩
    · cases hr0) (sX5_takeAct_51 h hm hx hr (bX5_takeAct_52 h hm hx hr))
noncomputable def tX5_takeAct_40 (r : Nat) (j51 : qT (Int32 × qM)) (j52 : qT (Int32 × qM)) : qT (Int32 × qM) :=
  oLa 0 (oGf r 5 (r + 6) (oLi 2 (oAi (r + 6) 8 (oC (.int (-1 : Int32)) (oCEq (j51) (oLa 1 (oCi GX6_takeSemicolon 1 (oEq (j51) (oC (.int (1 : Int32)) (j52))))))))))
noncomputable def wX5_takeAct_40 (r : Nat) (k : Int32 → qM → Option (Int32 × qM)) : qT (Int32 × qM) := fun lo st m => match lo, st with
  | [some (.ref q0), some (.ref 3), some (.int a2)], [] => bif Nat.beq q0 r then k a2 m else none
  | _, _ => none
set_option maxRecDepth 20000 in
theorem sX5_takeAct_40 {C : qCx} {w : qWp} {r : Nat} (h : qOk C w RX5 cX5_takeAct 3 7 155 155) (hm : qMt C (some .boolean)) (hx : qNx C) (hr : qpol r = true) {j51 : qT (Int32 × qM)} {j52 : qT (Int32 × qM)} (k51 : qSnd C w 3 155 (qQf C w 155 155 jI) qfin 155 85 j51) (k52 : qSnd C w 3 155 (qQf C w 155 155 jI) qfin 155 86 j52) : qSnd C w 3 155 (qQf C w 155 155 jI) qfin 155 64 (tX5_takeAct_40 r j51 j52) :=
  cLa (pc := 64) h dX5_takeAct_64 rfl (gGf (pc := 65) h dX5_takeAct_65 (ffp_X5_27_0 hr) (fp_hn_0 hr) (by decide) (fp_fin_5 hr) (cLi (pc := 68) h dX5_takeAct_68 rfl (rAi (pc := 69) h dX5_takeAct_69 (fp_hs_6 hr) (fp_hn_6 hr) (by decide) (cC (pc := 70) h dX5_takeAct_70 rfl (jCEq (pc := 71) h dX5_takeAct_71 rfl (k51) (cLa (pc := 74) h dX5_takeAct_74 rfl (kCi (pc := 75) h (kd_X5_89 h dX5_takeAct_75) spX6_takeSemicolon (by decide) (by decide) (by decide) (by decide) (jEq (pc := 78) h dX5_takeAct_78 rfl (k51) (cC (pc := 81) h dX5_takeAct_81 rfl (jGo (pc := 82) h dX5_takeAct_82 rfl (k52)))))))))))
set_option maxRecDepth 20000 in
theorem lX5_takeAct_40 (r : Nat) (hr : qpol r = true) (a2 : Int32) (m : qM) : tX5_takeAct_40 r (wX5_takeAct_51 r (fX5_takeAct_51 r)) (wX5_takeAct_52 r (fX5_takeAct_52 r)) [some (.ref r), some (.ref 3), some (.int a2)] [] m = fX5_takeAct_40 r a2 m := by
  rcases qpol_cases hr with rfl | rfl | rfl | rfl | rfl <;> rfl
theorem bX5_takeAct_40 {C : qCx} {w : qWp} {r : Nat} (h : qOk C w RX5 cX5_takeAct 3 7 155 155) (hm : qMt C (some .boolean)) (hx : qNx C) (hr : qpol r = true) : qSnd C w 3 155 (qQf C w 155 155 jI) qfin 155 64 (wX5_takeAct_40 r (fX5_takeAct_40 r)) :=
  qSnd_of (fun lo st m x hr0 => by
    unfold wX5_takeAct_40 at hr0
    split at hr0
    · have he := (qbeq hr0).1
      have hr1 := (qbeq hr0).2
      rw [he]
      exact ⟨_, (qsub_e (qsub_e (qsub_e qsub_nil))), (lX5_takeAct_40 r hr _ _).trans hr1⟩
    · cases hr0) (sX5_takeAct_40 h hm hx hr (bX5_takeAct_51 h hm hx hr) (bX5_takeAct_52 h hm hx hr))
noncomputable def tX5_takeAct_32 (r : Nat) (j40 : qT (Int32 × qM)) : qT (Int32 × qM) :=
  oLa 0 (oGf r 5 (r + 6) (oLi 2 (oLa 1 (oC (.int (1 : Int32)) (oC (.int (30 : Int32)) (oCi GX6_takeNumber 3 (oWi (r + 6) 8 (j40))))))))
noncomputable def wX5_takeAct_32 (r : Nat) (k : Int32 → qM → Option (Int32 × qM)) : qT (Int32 × qM) := fun lo st m => match lo, st with
  | [some (.ref q0), some (.ref 3), some (.int a2)], [] => bif Nat.beq q0 r then k a2 m else none
  | _, _ => none
set_option maxRecDepth 20000 in
theorem sX5_takeAct_32 {C : qCx} {w : qWp} {r : Nat} (h : qOk C w RX5 cX5_takeAct 3 7 155 155) (hm : qMt C (some .boolean)) (hx : qNx C) (hr : qpol r = true) {j40 : qT (Int32 × qM)} (k40 : qSnd C w 3 155 (qQf C w 155 155 jI) qfin 155 64 j40) : qSnd C w 3 155 (qQf C w 155 155 jI) qfin 155 51 (tX5_takeAct_32 r j40) :=
  cLa (pc := 51) h dX5_takeAct_51 rfl (gGf (pc := 52) h dX5_takeAct_52 (ffp_X5_27_0 hr) (fp_hn_0 hr) (by decide) (fp_fin_5 hr) (cLi (pc := 55) h dX5_takeAct_55 rfl (cLa (pc := 56) h dX5_takeAct_56 rfl (cC (pc := 57) h dX5_takeAct_57 rfl (cB (pc := 58) h dX5_takeAct_58 rfl (kCi (pc := 60) h (kd_X5_83 h dX5_takeAct_60) spX6_takeNumber (by decide) (by decide) (by decide) (by decide) (rWi (pc := 63) h dX5_takeAct_63 (fp_hs_6 hr) (fp_hn_6 hr) (by decide) (k40))))))))
set_option maxRecDepth 20000 in
theorem lX5_takeAct_32 (r : Nat) (hr : qpol r = true) (a2 : Int32) (m : qM) : tX5_takeAct_32 r (wX5_takeAct_40 r (fX5_takeAct_40 r)) [some (.ref r), some (.ref 3), some (.int a2)] [] m = fX5_takeAct_32 r a2 m := by
  rcases qpol_cases hr with rfl | rfl | rfl | rfl | rfl <;> rfl
theorem bX5_takeAct_32 {C : qCx} {w : qWp} {r : Nat} (h : qOk C w RX5 cX5_takeAct 3 7 155 155) (hm : qMt C (some .boolean)) (hx : qNx C) (hr : qpol r = true) : qSnd C w 3 155 (qQf C w 155 155 jI) qfin 155 51 (wX5_takeAct_32 r (fX5_takeAct_32 r)) :=
  qSnd_of (fun lo st m x hr0 => by
    unfold wX5_takeAct_32 at hr0
    split at hr0
    · have he := (qbeq hr0).1
      have hr1 := (qbeq hr0).2
      rw [he]
      exact ⟨_, (qsub_e (qsub_e (qsub_e qsub_nil))), (lX5_takeAct_32 r hr _ _).trans hr1⟩
    · cases hr0) (sX5_takeAct_32 h hm hx hr (bX5_takeAct_40 h hm hx hr))
noncomputable def tX5_takeAct_0 (r : Nat) (j32 : qT (Int32 × qM)) (j40 : qT (Int32 × qM)) : qT (Int32 × qM) :=
  oLa 0 (oGf r 4 (r + 5) (oLi 2 (oLa 1 (oC (.ref 10105) (oCi GX6_takeWordOf 2 (oWi (r + 5) 8 (oLa 0 (oGf r 4 (r + 5) (oLi 2 (oAi (r + 5) 8 (oC (.int (-1 : Int32)) (oCEq (oC (.int (0 : Int32)) (eZ)) (oLa 0 (oGf r 5 (r + 6) (oLi 2 (oC (.int (0 : Int32)) (oWi (r + 6) 8 (oLa 0 (oGf r 4 (r + 5) (oLi 2 (oAi (r + 5) 8 (oC (.int (4 : Int32)) (oCEq (j32) (oLa 0 (oGf r 4 (r + 5) (oLi 2 (oAi (r + 5) 8 (oC (.int (5 : Int32)) (oCEq (j32) (j40))))))))))))))))))))))))))))))
set_option maxRecDepth 20000 in
theorem sX5_takeAct_0 {C : qCx} {w : qWp} {r : Nat} (h : qOk C w RX5 cX5_takeAct 3 7 155 155) (hm : qMt C (some .boolean)) (hx : qNx C) (hr : qpol r = true) {j32 : qT (Int32 × qM)} {j40 : qT (Int32 × qM)} (k32 : qSnd C w 3 155 (qQf C w 155 155 jI) qfin 155 51 j32) (k40 : qSnd C w 3 155 (qQf C w 155 155 jI) qfin 155 64 j40) : qSnd C w 3 155 (qQf C w 155 155 jI) qfin 155 0 (tX5_takeAct_0 r j32 j40) :=
  cLa (pc := 0) h dX5_takeAct_0 rfl (gGf (pc := 1) h dX5_takeAct_1 (ffp_X5_24_0 hr) (fp_hn_0 hr) (by decide) (fp_fin_4 hr) (cLi (pc := 4) h dX5_takeAct_4 rfl (cLa (pc := 5) h dX5_takeAct_5 rfl (cStr (pc := 6) h dX5_takeAct_6 fs_X5_87 (kCi (pc := 8) h (kd_X5_76 h dX5_takeAct_8) spX6_takeWordOf (by decide) (by decide) (by decide) (by decide) (rWi (pc := 11) h dX5_takeAct_11 (fp_hs_5 hr) (fp_hn_5 hr) (by decide) (cLa (pc := 12) h dX5_takeAct_12 rfl (gGf (pc := 13) h dX5_takeAct_13 (ffp_X5_24_0 hr) (fp_hn_0 hr) (by decide) (fp_fin_4 hr) (cLi (pc := 16) h dX5_takeAct_16 rfl (rAi (pc := 17) h dX5_takeAct_17 (fp_hs_5 hr) (fp_hn_5 hr) (by decide) (cC (pc := 18) h dX5_takeAct_18 rfl (jCNe (pc := 19) h dX5_takeAct_19 rfl (cLa (pc := 24) h dX5_takeAct_24 rfl (gGf (pc := 25) h dX5_takeAct_25 (ffp_X5_27_0 hr) (fp_hn_0 hr) (by decide) (fp_fin_5 hr) (cLi (pc := 28) h dX5_takeAct_28 rfl (cC (pc := 29) h dX5_takeAct_29 rfl (rWi (pc := 30) h dX5_takeAct_30 (fp_hs_6 hr) (fp_hn_6 hr) (by decide) (cLa (pc := 31) h dX5_takeAct_31 rfl (gGf (pc := 32) h dX5_takeAct_32 (ffp_X5_24_0 hr) (fp_hn_0 hr) (by decide) (fp_fin_4 hr) (cLi (pc := 35) h dX5_takeAct_35 rfl (rAi (pc := 36) h dX5_takeAct_36 (fp_hs_5 hr) (fp_hn_5 hr) (by decide) (cC (pc := 37) h dX5_takeAct_37 rfl (jCEq (pc := 38) h dX5_takeAct_38 rfl (k32) (cLa (pc := 41) h dX5_takeAct_41 rfl (gGf (pc := 42) h dX5_takeAct_42 (ffp_X5_24_0 hr) (fp_hn_0 hr) (by decide) (fp_fin_4 hr) (cLi (pc := 45) h dX5_takeAct_45 rfl (rAi (pc := 46) h dX5_takeAct_46 (fp_hs_5 hr) (fp_hn_5 hr) (by decide) (cC (pc := 47) h dX5_takeAct_47 rfl (jCNe (pc := 48) h dX5_takeAct_48 rfl (k40) (k32)))))))))))))))))) (cC (pc := 22) h dX5_takeAct_22 rfl (zZ (pc := 23) h hm (Nat.le_refl _) dX5_takeAct_23))))))))))))))
set_option maxRecDepth 20000 in
theorem lX5_takeAct_0 (r : Nat) (hr : qpol r = true) (a2 : Int32) (m : qM) : tX5_takeAct_0 r (wX5_takeAct_32 r (fX5_takeAct_32 r)) (wX5_takeAct_40 r (fX5_takeAct_40 r)) [some (.ref r), some (.ref 3), some (.int a2)] [] m = fX5_takeAct_0 r a2 m := by
  rcases qpol_cases hr with rfl | rfl | rfl | rfl | rfl <;> rfl
noncomputable def GX5_takeAct : qG Int32 := fun av m => match av with
  | [.ref r, .ref 3, .int a2] => bif qpol r then fX5_takeAct r a2 m else none
  | _ => none
theorem spX5_takeAct : qSpI yX5_takeAct (.code yX5_takeAct cX5_takeAct 3 (some .boolean)) 7 qfin 155 155 1 GX5_takeAct := by
  intro av m x m' hG
  unfold GX5_takeAct at hG
  split at hG
  · rename_i r a2
    obtain ⟨hr, hG⟩ := qbt hG
    rw [fX5_takeAct_d] at hG
    exact ⟨qmeet (J := jI) (r := (x, m')) (av := [.ref r, .ref 3, .int a2]) (by decide +kernel) (Nat.le_of_ble_eq_true rfl) (fun C w h hm hx hn => sX5_takeAct_0 h hm hx hr (bX5_takeAct_32 h hm hx hr) (bX5_takeAct_40 h hm hx hr)) ((lX5_takeAct_0 _ hr _ _).trans hG) (Nat.le_of_ble_eq_true rfl), qRc_pol hr rfl⟩
  · cases hG
theorem im_X6_open : Jvm.Cond.instanceMethod yX6_open ∈ qTw := qm3 (List.mem_of_getElem? (i := 4) (by decide +kernel)) (by decide +kernel)
theorem se_X6_open : Jvm.Cond.selects yX6_open.cls yX6_open yX6_open ∈ qTw := qm3 (List.mem_of_getElem? (i := 5) (by decide +kernel)) (by decide +kernel)
theorem co_X6_open : Jvm.Cond.code yX6_open cX6_open 1 none ∈ qTw := qm3 (List.mem_of_getElem? (i := 6) (by decide +kernel)) (by decide +kernel)
theorem yk_X6_open : qYk yX6_open 0 := ⟨⟨by decide +kernel, by decide +kernel⟩, by decide +kernel⟩
theorem ml_X5_42 : Jvm.Cond.methodLink RX5 42 yX6_open ∈ qTw := qm3 (List.mem_of_getElem? (i := 148) (by decide +kernel)) (by decide +kernel)
theorem kd_X5_42 {C : qCx} {w : qWp} {cc : ByteArray} {nL dp n0 n1 pc : Nat} (h : qOk C w RX5 cc nL dp n0 n1) (d : decode cc pc = .ok (.invokevirtual 42, 3)) : qCallOk C w nL dp n0 n1 pc 1 1 yX6_open (.code yX6_open cX6_open 1 none) := kindV h d ml_X5_42 im_X6_open se_X6_open in_ParentEve_Reader co_X6_open yk_X6_open (by decide)
theorem ml_X5_47 : Jvm.Cond.methodLink RX5 47 yX6_step ∈ qTw := qm3 (List.mem_of_getElem? (i := 149) (by decide +kernel)) (by decide +kernel)
theorem kd_X5_47 {C : qCx} {w : qWp} {cc : ByteArray} {nL dp n0 n1 pc : Nat} (h : qOk C w RX5 cc nL dp n0 n1) (d : decode cc pc = .ok (.invokevirtual 47, 3)) : qCallOk C w nL dp n0 n1 pc 1 1 yX6_step (.code yX6_step cX6_step 2 none) := kindV h d ml_X5_47 im_X6_step se_X6_step in_ParentEve_Reader co_X6_step yk_X6_step (by decide)
theorem im_X6_isAtEnd : Jvm.Cond.instanceMethod yX6_isAtEnd ∈ qTw := qm3 (List.mem_of_getElem? (i := 27) (by decide +kernel)) (by decide +kernel)
theorem se_X6_isAtEnd : Jvm.Cond.selects yX6_isAtEnd.cls yX6_isAtEnd yX6_isAtEnd ∈ qTw := qm3 (List.mem_of_getElem? (i := 28) (by decide +kernel)) (by decide +kernel)
theorem co_X6_isAtEnd : Jvm.Cond.code yX6_isAtEnd cX6_isAtEnd 1 (some .boolean) ∈ qTw := qm3 (List.mem_of_getElem? (i := 29) (by decide +kernel)) (by decide +kernel)
theorem yk_X6_isAtEnd : qYk yX6_isAtEnd 0 := ⟨⟨by decide +kernel, by decide +kernel⟩, by decide +kernel⟩
theorem ml_X5_50 : Jvm.Cond.methodLink RX5 50 yX6_isAtEnd ∈ qTw := qm3 (List.mem_of_getElem? (i := 150) (by decide +kernel)) (by decide +kernel)
theorem kd_X5_50 {C : qCx} {w : qWp} {cc : ByteArray} {nL dp n0 n1 pc : Nat} (h : qOk C w RX5 cc nL dp n0 n1) (d : decode cc pc = .ok (.invokevirtual 50, 3)) : qCallOk C w nL dp n0 n1 pc 1 1 yX6_isAtEnd (.code yX6_isAtEnd cX6_isAtEnd 1 (some .boolean)) := kindV h d ml_X5_50 im_X6_isAtEnd se_X6_isAtEnd in_ParentEve_Reader co_X6_isAtEnd yk_X6_isAtEnd (by decide)
theorem fs_X5_54 : (RX5, 54, "when", 10101) ∈ qStr := by decide +kernel
theorem ml_X5_56 : Jvm.Cond.methodLink RX5 56 yX6_wordOf ∈ qTw := qm3 (List.mem_of_getElem? (i := 152) (by decide +kernel)) (by decide +kernel)
theorem kd_X5_56 {C : qCx} {w : qWp} {cc : ByteArray} {nL dp n0 n1 pc : Nat} (h : qOk C w RX5 cc nL dp n0 n1) (d : decode cc pc = .ok (.invokevirtual 56, 3)) : qCallOk C w nL dp n0 n1 pc 2 1 yX6_wordOf (.code yX6_wordOf cX6_wordOf 5 (some .int)) := kindV h d ml_X5_56 im_X6_wordOf se_X6_wordOf in_ParentEve_Reader co_X6_wordOf yk_X6_wordOf (by decide)
theorem im_X5_takeConditions : Jvm.Cond.instanceMethod yX5_takeConditions ∈ qTw := qm3 (List.mem_of_getElem? (i := 156) (by decide +kernel)) (by decide +kernel)
theorem se_X5_takeConditions : Jvm.Cond.selects yX5_takeConditions.cls yX5_takeConditions yX5_takeConditions ∈ qTw := List.mem_filter.mpr ⟨List.mem_append_left _ (List.mem_of_getElem? (i := 2) (by decide +kernel)), rfl⟩
theorem co_X5_takeConditions : Jvm.Cond.code yX5_takeConditions cX5_takeConditions 5 (some .boolean) ∈ qTw := qm3 (List.mem_of_getElem? (i := 157) (by decide +kernel)) (by decide +kernel)
theorem yk_X5_takeConditions : qYk yX5_takeConditions 2 := ⟨⟨by decide +kernel, by decide +kernel⟩, by decide +kernel⟩
theorem ml_X5_64 : Jvm.Cond.methodLink RX5 64 yX5_takeConditions ∈ qTw := qm3 (List.mem_of_getElem? (i := 154) (by decide +kernel)) (by decide +kernel)
theorem kd_X5_64 {C : qCx} {w : qWp} {cc : ByteArray} {nL dp n0 n1 pc : Nat} (h : qOk C w RX5 cc nL dp n0 n1) (d : decode cc pc = .ok (.invokevirtual 64, 3)) : qCallOk C w nL dp n0 n1 pc 3 1 yX5_takeConditions (.code yX5_takeConditions cX5_takeConditions 5 (some .boolean)) := kindV h d ml_X5_64 im_X5_takeConditions se_X5_takeConditions in_ParentEve_Policy co_X5_takeConditions yk_X5_takeConditions (by decide)
theorem im_X5_takeAct : Jvm.Cond.instanceMethod yX5_takeAct ∈ qTw := qm3 (List.mem_of_getElem? (i := 173) (by decide +kernel)) (by decide +kernel)
theorem se_X5_takeAct : Jvm.Cond.selects yX5_takeAct.cls yX5_takeAct yX5_takeAct ∈ qTw := List.mem_filter.mpr ⟨List.mem_append_left _ (List.mem_of_getElem? (i := 4) (by decide +kernel)), rfl⟩
theorem co_X5_takeAct : Jvm.Cond.code yX5_takeAct cX5_takeAct 3 (some .boolean) ∈ qTw := qm3 (List.mem_of_getElem? (i := 174) (by decide +kernel)) (by decide +kernel)
theorem yk_X5_takeAct : qYk yX5_takeAct 2 := ⟨⟨by decide +kernel, by decide +kernel⟩, by decide +kernel⟩
theorem ml_X5_68 : Jvm.Cond.methodLink RX5 68 yX5_takeAct ∈ qTw := qm3 (List.mem_of_getElem? (i := 171) (by decide +kernel)) (by decide +kernel)
theorem kd_X5_68 {C : qCx} {w : qWp} {cc : ByteArray} {nL dp n0 n1 pc : Nat} (h : qOk C w RX5 cc nL dp n0 n1) (d : decode cc pc = .ok (.invokevirtual 68, 3)) : qCallOk C w nL dp n0 n1 pc 3 1 yX5_takeAct (.code yX5_takeAct cX5_takeAct 3 (some .boolean)) := kindV h d ml_X5_68 im_X5_takeAct se_X5_takeAct in_ParentEve_Policy co_X5_takeAct yk_X5_takeAct (by decide)
theorem dX5_takeText_0 : decode cX5_takeText 0 = .ok (.aload_n 0, 1) := by decide +kernel
theorem dX5_takeText_1 : decode cX5_takeText 1 = .ok (.iconst 0, 1) := by decide +kernel
theorem dX5_takeText_2 : decode cX5_takeText 2 = .ok (.putfield 30, 3) := by decide +kernel
theorem dX5_takeText_5 : decode cX5_takeText 5 = .ok (.aload_n 1, 1) := by decide +kernel
theorem dX5_takeText_6 : decode cX5_takeText 6 = .ok (.invokevirtual 42, 3) := by decide +kernel
theorem dX5_takeText_9 : decode cX5_takeText 9 = .ok (.iconst 0, 1) := by decide +kernel
theorem dX5_takeText_10 : decode cX5_takeText 10 = .ok (.istore_n 2, 1) := by decide +kernel
theorem dX5_takeText_11 : decode cX5_takeText 11 = .ok (.iload_n 2, 1) := by decide +kernel
theorem dX5_takeText_12 : decode cX5_takeText 12 = .ok (.bipush 8, 2) := by decide +kernel
theorem dX5_takeText_14 : decode cX5_takeText 14 = .ok (.if_icmp .gt 75, 3) := by decide +kernel
theorem dX5_takeText_17 : decode cX5_takeText 17 = .ok (.aload_n 1, 1) := by decide +kernel
theorem dX5_takeText_18 : decode cX5_takeText 18 = .ok (.invokevirtual 47, 3) := by decide +kernel
theorem dX5_takeText_21 : decode cX5_takeText 21 = .ok (.aload_n 1, 1) := by decide +kernel
theorem dX5_takeText_22 : decode cX5_takeText 22 = .ok (.invokevirtual 50, 3) := by decide +kernel
theorem dX5_takeText_25 : decode cX5_takeText 25 = .ok (.ifCond .eq 10, 3) := by decide +kernel
theorem dX5_takeText_28 : decode cX5_takeText 28 = .ok (.aload_n 0, 1) := by decide +kernel
theorem dX5_takeText_29 : decode cX5_takeText 29 = .ok (.iload_n 2, 1) := by decide +kernel
theorem dX5_takeText_30 : decode cX5_takeText 30 = .ok (.putfield 30, 3) := by decide +kernel
theorem dX5_takeText_33 : decode cX5_takeText 33 = .ok (.iload_n 2, 1) := by decide +kernel
theorem dX5_takeText_34 : decode cX5_takeText 34 = .ok (.ireturn, 1) := by decide +kernel
theorem dX5_takeText_35 : decode cX5_takeText 35 = .ok (.aload_n 1, 1) := by decide +kernel
theorem dX5_takeText_36 : decode cX5_takeText 36 = .ok (.ldc 54, 2) := by decide +kernel
theorem dX5_takeText_38 : decode cX5_takeText 38 = .ok (.invokevirtual 56, 3) := by decide +kernel
theorem dX5_takeText_41 : decode cX5_takeText 41 = .ok (.iconst (-1), 1) := by decide +kernel
theorem dX5_takeText_42 : decode cX5_takeText 42 = .ok (.if_icmp .ne 9, 3) := by decide +kernel
theorem dX5_takeText_45 : decode cX5_takeText 45 = .ok (.aload_n 1, 1) := by decide +kernel
theorem dX5_takeText_46 : decode cX5_takeText 46 = .ok (.iconst 1, 1) := by decide +kernel
theorem dX5_takeText_47 : decode cX5_takeText 47 = .ok (.invokevirtual 60, 3) := by decide +kernel
theorem dX5_takeText_50 : decode cX5_takeText 50 = .ok (.ireturn, 1) := by decide +kernel
theorem dX5_takeText_51 : decode cX5_takeText 51 = .ok (.iload_n 2, 1) := by decide +kernel
theorem dX5_takeText_52 : decode cX5_takeText 52 = .ok (.bipush 8, 2) := by decide +kernel
theorem dX5_takeText_54 : decode cX5_takeText 54 = .ok (.if_icmp .ne 9, 3) := by decide +kernel
theorem dX5_takeText_57 : decode cX5_takeText 57 = .ok (.aload_n 1, 1) := by decide +kernel
theorem dX5_takeText_58 : decode cX5_takeText 58 = .ok (.iconst 4, 1) := by decide +kernel
theorem dX5_takeText_59 : decode cX5_takeText 59 = .ok (.invokevirtual 60, 3) := by decide +kernel
theorem dX5_takeText_62 : decode cX5_takeText 62 = .ok (.ireturn, 1) := by decide +kernel
theorem dX5_takeText_63 : decode cX5_takeText 63 = .ok (.aload_n 0, 1) := by decide +kernel
theorem dX5_takeText_64 : decode cX5_takeText 64 = .ok (.aload_n 1, 1) := by decide +kernel
theorem dX5_takeText_65 : decode cX5_takeText 65 = .ok (.iload_n 2, 1) := by decide +kernel
theorem dX5_takeText_66 : decode cX5_takeText 66 = .ok (.invokevirtual 64, 3) := by decide +kernel
theorem dX5_takeText_69 : decode cX5_takeText 69 = .ok (.ifCond .eq 12, 3) := by decide +kernel
theorem dX5_takeText_72 : decode cX5_takeText 72 = .ok (.aload_n 0, 1) := by decide +kernel
theorem dX5_takeText_73 : decode cX5_takeText 73 = .ok (.aload_n 1, 1) := by decide +kernel
theorem dX5_takeText_74 : decode cX5_takeText 74 = .ok (.iload_n 2, 1) := by decide +kernel
theorem dX5_takeText_75 : decode cX5_takeText 75 = .ok (.invokevirtual 68, 3) := by decide +kernel
theorem dX5_takeText_78 : decode cX5_takeText 78 = .ok (.ifCond .ne 5, 3) := by decide +kernel
theorem dX5_takeText_81 : decode cX5_takeText 81 = .ok (.iconst (-1), 1) := by decide +kernel
theorem dX5_takeText_82 : decode cX5_takeText 82 = .ok (.ireturn, 1) := by decide +kernel
theorem dX5_takeText_83 : decode cX5_takeText 83 = .ok (.iinc 2 1, 3) := by decide +kernel
theorem dX5_takeText_86 : decode cX5_takeText 86 = .ok (.goto (-75), 3) := by decide +kernel
theorem dX5_takeText_89 : decode cX5_takeText 89 = .ok (.iconst (-1), 1) := by decide +kernel
theorem dX5_takeText_90 : decode cX5_takeText 90 = .ok (.ireturn, 1) := by decide +kernel
noncomputable def tX5_takeText_7 (r : Nat) (j46 : qT (Int32 × qM)) (j7 : qT (Int32 × qM)) : qT (Int32 × qM) :=
  oLi 2 (oC (.int (8 : Int32)) (oCGt (oC (.int (-1 : Int32)) (eI)) (oLa 1 (oCv GX6_step 1 (oLa 1 (oCi GX6_isAtEnd 1 (oEq (oLa 1 (oC (.ref 10101) (oCi GX6_wordOf 2 (oC (.int (-1 : Int32)) (oCEq (oLa 1 (oC (.int (1 : Int32)) (oCi GX6_fail 2 (eI)))) (oLi 2 (oC (.int (8 : Int32)) (oCEq (oLa 1 (oC (.int (4 : Int32)) (oCi GX6_fail 2 (eI)))) (oLa 0 (oLa 1 (oLi 2 (oCi GX5_takeConditions 3 (oEq (j46) (oLa 0 (oLa 1 (oLi 2 (oCi GX5_takeAct 3 (oEq (j46) (oInc 2 (1 : Int32) (j7)))))))))))))))))))) (oLa 0 (oLi 2 (oPi r 6 (oLi 2 (eI))))))))))))
noncomputable def wX5_takeText_7 (r : Nat) (k : Int32 → qM → Option (Int32 × qM)) : qT (Int32 × qM) := fun lo st m => match lo, st with
  | [some (.ref q0), some (.ref 3), some (.int a2)], [] => bif Nat.beq q0 r then k a2 m else none
  | _, _ => none
noncomputable def wX5_takeText_46 (r : Nat) (k : qM → Option (Int32 × qM)) : qT (Int32 × qM) := fun lo st m => match lo, st with
  | [_, _, _], [] => k m
  | _, _ => none
set_option maxRecDepth 20000 in
theorem sX5_takeText_7 {C : qCx} {w : qWp} {r : Nat} (h : qOk C w RX5 cX5_takeText 3 9 155 155) (hm : qMt C (some .int)) (hx : qNx C) (hr : qpol r = true) {j46 : qT (Int32 × qM)} {j7 : qT (Int32 × qM)} (k46 : qSnd C w 3 155 (qQf C w 155 155 jI) qfin 155 81 j46) (k7 : qSnd C w 3 155 (qQf C w 155 155 jI) qfin 155 11 j7) : qSnd C w 3 155 (qQf C w 155 155 jI) qfin 155 11 (tX5_takeText_7 r j46 j7) :=
  cLi (pc := 11) h dX5_takeText_11 rfl (cB (pc := 12) h dX5_takeText_12 rfl (jCGt (pc := 14) h dX5_takeText_14 rfl (cC (pc := 89) h dX5_takeText_89 rfl (zI (pc := 90) h hm (Nat.le_refl _) dX5_takeText_90)) (cLa (pc := 17) h dX5_takeText_17 rfl (kCv (pc := 18) h (kd_X5_47 h dX5_takeText_18) spX6_step (by decide) (by decide) (by decide) (by decide) (cLa (pc := 21) h dX5_takeText_21 rfl (kCi (pc := 22) h (kd_X5_50 h dX5_takeText_22) spX6_isAtEnd (by decide) (by decide) (by decide) (by decide) (jEq (pc := 25) h dX5_takeText_25 rfl (cLa (pc := 35) h dX5_takeText_35 rfl (cStr (pc := 36) h dX5_takeText_36 fs_X5_54 (kCi (pc := 38) h (kd_X5_56 h dX5_takeText_38) spX6_wordOf (by decide) (by decide) (by decide) (by decide) (cC (pc := 41) h dX5_takeText_41 rfl (jCNe (pc := 42) h dX5_takeText_42 rfl (cLi (pc := 51) h dX5_takeText_51 rfl (cB (pc := 52) h dX5_takeText_52 rfl (jCNe (pc := 54) h dX5_takeText_54 rfl (cLa (pc := 63) h dX5_takeText_63 rfl (cLa (pc := 64) h dX5_takeText_64 rfl (cLi (pc := 65) h dX5_takeText_65 rfl (kCi (pc := 66) h (kd_X5_64 h dX5_takeText_66) spX5_takeConditions (by decide) (by decide) (by decide) (by decide) (jEq (pc := 69) h dX5_takeText_69 rfl (k46) (cLa (pc := 72) h dX5_takeText_72 rfl (cLa (pc := 73) h dX5_takeText_73 rfl (cLi (pc := 74) h dX5_takeText_74 rfl (kCi (pc := 75) h (kd_X5_68 h dX5_takeText_75) spX5_takeAct (by decide) (by decide) (by decide) (by decide) (jNe (pc := 78) h dX5_takeText_78 rfl (cInc (pc := 83) h dX5_takeText_83 rfl (jGo (pc := 86) h dX5_takeText_86 rfl (k7))) (k46))))))))))) (cLa (pc := 57) h dX5_takeText_57 rfl (cC (pc := 58) h dX5_takeText_58 rfl (kCi (pc := 59) h (kd_X5_60 h dX5_takeText_59) spX6_fail (by decide) (by decide) (by decide) (by decide) (zI (pc := 62) h hm (Nat.le_refl _) dX5_takeText_62))))))) (cLa (pc := 45) h dX5_takeText_45 rfl (cC (pc := 46) h dX5_takeText_46 rfl (kCi (pc := 47) h (kd_X5_60 h dX5_takeText_47) spX6_fail (by decide) (by decide) (by decide) (by decide) (zI (pc := 50) h hm (Nat.le_refl _) dX5_takeText_50))))))))) (cLa (pc := 28) h dX5_takeText_28 rfl (cLi (pc := 29) h dX5_takeText_29 rfl (gPi (pc := 30) h dX5_takeText_30 (ffp_X5_30_0 hr) (Or.inl rfl) (fp_hn_0 hr) (by decide) (cLi (pc := 33) h dX5_takeText_33 rfl (zI (pc := 34) h hm (Nat.le_refl _) dX5_takeText_34))))))))))))
set_option maxRecDepth 20000 in
theorem lX5_takeText_7 (r : Nat) (hr : qpol r = true) (k46 : qM → Option (Int32 × qM)) (n : Nat) (a2 : Int32) (m : qM) : tX5_takeText_7 r (wX5_takeText_46 r k46) (wX5_takeText_7 r ((fX5_takeText_7 r k46 n))) [some (.ref r), some (.ref 3), some (.int a2)] [] m = fX5_takeText_7 r k46 (n + 1) a2 m := by
  rcases qpol_cases hr with rfl | rfl | rfl | rfl | rfl <;> rfl
theorem bX5_takeText_7 {C : qCx} {w : qWp} {r : Nat} (h : qOk C w RX5 cX5_takeText 3 9 155 155) (hm : qMt C (some .int)) (hx : qNx C) (hr : qpol r = true) {k46 : qM → Option (Int32 × qM)} (h46 : qSnd C w 3 155 (qQf C w 155 155 jI) qfin 155 81 (wX5_takeText_46 r k46)) : ∀ n : Nat, qSnd C w 3 155 (qQf C w 155 155 jI) qfin 155 11 (wX5_takeText_7 r (fX5_takeText_7 r k46 n))
  | 0 => qSnd_of0 (fun lo st m x hr0 => by
    unfold wX5_takeText_7 at hr0
    split at hr0
    · cases (qbeq hr0).2
    · cases hr0)
  | n + 1 => by
    have ih := bX5_takeText_7 h hm hx hr h46 n
    exact qSnd_of (fun lo st m x hr0 => by
    unfold wX5_takeText_7 at hr0
    split at hr0
    · have he := (qbeq hr0).1
      have hr1 := (qbeq hr0).2
      rw [he]
      exact ⟨_, (qsub_e (qsub_e (qsub_e qsub_nil))), (lX5_takeText_7 r hr _ n _ _).trans hr1⟩
    · cases hr0) (sX5_takeText_7 h hm hx hr h46 ih)
noncomputable def tX5_takeText_46 (r : Nat) : qT (Int32 × qM) :=
  oC (.int (-1 : Int32)) (eI)
set_option maxRecDepth 20000 in
theorem sX5_takeText_46 {C : qCx} {w : qWp} {r : Nat} (h : qOk C w RX5 cX5_takeText 3 9 155 155) (hm : qMt C (some .int)) (hx : qNx C) (hr : qpol r = true) : qSnd C w 3 155 (qQf C w 155 155 jI) qfin 155 81 (tX5_takeText_46 r) :=
  cC (pc := 81) h dX5_takeText_81 rfl (zI (pc := 82) h hm (Nat.le_refl _) dX5_takeText_82)
set_option maxRecDepth 20000 in
theorem lX5_takeText_46 (r : Nat) (hr : qpol r = true) (m : qM) : tX5_takeText_46 r [none, none, none] [] m = fX5_takeText_46 r m := by
  rcases qpol_cases hr with rfl | rfl | rfl | rfl | rfl <;> rfl
theorem bX5_takeText_46 {C : qCx} {w : qWp} {r : Nat} (h : qOk C w RX5 cX5_takeText 3 9 155 155) (hm : qMt C (some .int)) (hx : qNx C) (hr : qpol r = true) : qSnd C w 3 155 (qQf C w 155 155 jI) qfin 155 81 (wX5_takeText_46 r (fX5_takeText_46 r)) :=
  qSnd_of (fun lo st m x hr0 => by
    unfold wX5_takeText_46 at hr0
    split at hr0
    · exact ⟨_, (qsub_n (qsub_n (qsub_n qsub_nil))), (lX5_takeText_46 r hr _).trans hr0⟩
    · cases hr0) (sX5_takeText_46 h hm hx hr)
noncomputable def tX5_takeText_0 (r : Nat) (j7 : qT (Int32 × qM)) : qT (Int32 × qM) :=
  oLa 0 (oC (.int (0 : Int32)) (oPi r 6 (oLa 1 (oCv GX6_open 1 (oC (.int (0 : Int32)) (oSi 2 (j7)))))))
set_option maxRecDepth 20000 in
theorem sX5_takeText_0 {C : qCx} {w : qWp} {r : Nat} (h : qOk C w RX5 cX5_takeText 3 9 155 155) (hm : qMt C (some .int)) (hx : qNx C) (hr : qpol r = true) {j7 : qT (Int32 × qM)} (k7 : qSnd C w 3 155 (qQf C w 155 155 jI) qfin 155 11 j7) : qSnd C w 3 155 (qQf C w 155 155 jI) qfin 155 0 (tX5_takeText_0 r j7) :=
  cLa (pc := 0) h dX5_takeText_0 rfl (cC (pc := 1) h dX5_takeText_1 rfl (gPi (pc := 2) h dX5_takeText_2 (ffp_X5_30_0 hr) (Or.inl rfl) (fp_hn_0 hr) (by decide) (cLa (pc := 5) h dX5_takeText_5 rfl (kCv (pc := 6) h (kd_X5_42 h dX5_takeText_6) spX6_open (by decide) (by decide) (by decide) (by decide) (cC (pc := 9) h dX5_takeText_9 rfl (cSi (pc := 10) h dX5_takeText_10 rfl (k7)))))))
set_option maxRecDepth 20000 in
theorem lX5_takeText_0 (r : Nat) (hr : qpol r = true) (m : qM) : tX5_takeText_0 r (wX5_takeText_7 r (fX5_takeText_7 r (fX5_takeText_46 r) FU)) [some (.ref r), some (.ref 3), none] [] m = fX5_takeText_0 r m := by
  rcases qpol_cases hr with rfl | rfl | rfl | rfl | rfl <;> rfl
noncomputable def GX5_takeText : qG Int32 := fun av m => match av with
  | [.ref r, .ref 3] => bif qpol r then fX5_takeText r m else none
  | _ => none
theorem spX5_takeText : qSpI yX5_takeText (.code yX5_takeText cX5_takeText 3 (some .int)) 9 qfin 155 155 1 GX5_takeText := by
  intro av m x m' hG
  unfold GX5_takeText at hG
  split at hG
  · rename_i r
    obtain ⟨hr, hG⟩ := qbt hG
    rw [fX5_takeText_d] at hG
    exact ⟨qmeet (J := jI) (r := (x, m')) (av := [.ref r, .ref 3]) (by decide +kernel) (Nat.le_of_ble_eq_true rfl) (fun C w h hm hx hn => sX5_takeText_0 h hm hx hr (bX5_takeText_7 h hm hx hr (bX5_takeText_46 h hm hx hr) FU)) ((lX5_takeText_0 _ hr _).trans hG) (Nat.le_of_ble_eq_true rfl), qRc_pol hr rfl⟩
  · cases hG
theorem dX6_faultKind_0 : decode cX6_faultKind 0 = .ok (.aload_n 0, 1) := by decide +kernel
theorem dX6_faultKind_1 : decode cX6_faultKind 1 = .ok (.getfield 21, 3) := by decide +kernel
theorem dX6_faultKind_4 : decode cX6_faultKind 4 = .ok (.ireturn, 1) := by decide +kernel
noncomputable def tX6_faultKind_0 : qT (Int32 × qM) :=
  oLa 0 (oGi 3 4 (eI))
set_option maxRecDepth 20000 in
theorem sX6_faultKind_0 {C : qCx} {w : qWp} (h : qOk C w RX6 cX6_faultKind 1 0 155 155) (hm : qMt C (some .int)) (hx : qNx C) : qSnd C w 1 155 (qQf C w 155 155 jI) qfin 155 0 (tX6_faultKind_0) :=
  cLa (pc := 0) h dX6_faultKind_0 rfl (gGi (pc := 1) h dX6_faultKind_1 ff_X6_21_3 (Nat.le_of_ble_eq_true rfl) (Nat.le_of_ble_eq_true rfl) (zI (pc := 4) h hm (Nat.le_refl _) dX6_faultKind_4))
set_option maxRecDepth 20000 in
theorem lX6_faultKind_0 (m : qM) : tX6_faultKind_0 [some (.ref 3)] [] m = fX6_faultKind_0 m := rfl
noncomputable def GX6_faultKind : qG Int32 := fun av m => match av with
  | [.ref 3] => fX6_faultKind m
  | _ => none
theorem spX6_faultKind : qSpI yX6_faultKind (.code yX6_faultKind cX6_faultKind 1 (some .int)) 0 qfin 155 155 1 GX6_faultKind := by
  intro av m x m' hG
  unfold GX6_faultKind at hG
  split at hG
  · rw [fX6_faultKind_d] at hG
    exact ⟨qmeet (J := jI) (r := (x, m')) (av := [.ref 3]) (by decide +kernel) (Nat.le_of_ble_eq_true rfl) (fun C w h hm hx hn => sX6_faultKind_0 h hm hx) ((lX6_faultKind_0 _).trans hG) (Nat.le_of_ble_eq_true rfl), Or.inl ⟨3, _, 6, _, _, rfl, by decide, rfl, qCk_6, rfl⟩⟩
  · cases hG
theorem dX6_faultPlace_0 : decode cX6_faultPlace 0 = .ok (.aload_n 0, 1) := by decide +kernel
theorem dX6_faultPlace_1 : decode cX6_faultPlace 1 = .ok (.getfield 24, 3) := by decide +kernel
theorem dX6_faultPlace_4 : decode cX6_faultPlace 4 = .ok (.ireturn, 1) := by decide +kernel
noncomputable def tX6_faultPlace_0 : qT (Int32 × qM) :=
  oLa 0 (oGi 3 5 (eI))
set_option maxRecDepth 20000 in
theorem sX6_faultPlace_0 {C : qCx} {w : qWp} (h : qOk C w RX6 cX6_faultPlace 1 0 155 155) (hm : qMt C (some .int)) (hx : qNx C) : qSnd C w 1 155 (qQf C w 155 155 jI) qfin 155 0 (tX6_faultPlace_0) :=
  cLa (pc := 0) h dX6_faultPlace_0 rfl (gGi (pc := 1) h dX6_faultPlace_1 ff_X6_24_3 (Nat.le_of_ble_eq_true rfl) (Nat.le_of_ble_eq_true rfl) (zI (pc := 4) h hm (Nat.le_refl _) dX6_faultPlace_4))
set_option maxRecDepth 20000 in
theorem lX6_faultPlace_0 (m : qM) : tX6_faultPlace_0 [some (.ref 3)] [] m = fX6_faultPlace_0 m := rfl
noncomputable def GX6_faultPlace : qG Int32 := fun av m => match av with
  | [.ref 3] => fX6_faultPlace m
  | _ => none
theorem spX6_faultPlace : qSpI yX6_faultPlace (.code yX6_faultPlace cX6_faultPlace 1 (some .int)) 0 qfin 155 155 1 GX6_faultPlace := by
  intro av m x m' hG
  unfold GX6_faultPlace at hG
  split at hG
  · rw [fX6_faultPlace_d] at hG
    exact ⟨qmeet (J := jI) (r := (x, m')) (av := [.ref 3]) (by decide +kernel) (Nat.le_of_ble_eq_true rfl) (fun C w h hm hx hn => sX6_faultPlace_0 h hm hx) ((lX6_faultPlace_0 _).trans hG) (Nat.le_of_ble_eq_true rfl), Or.inl ⟨3, _, 6, _, _, rfl, by decide, rfl, qCk_6, rfl⟩⟩
  · cases hG
theorem ml_X7_25 : Jvm.Cond.methodLink RX7 25 yX7_slotMinutes ∈ qTw := qm6 (List.mem_of_getElem? (i := 49) (by decide +kernel)) (by decide +kernel)
theorem kd_X7_25 {C : qCx} {w : qWp} {cc : ByteArray} {nL dp n0 n1 pc : Nat} (h : qOk C w RX7 cc nL dp n0 n1) (d : decode cc pc = .ok (.invokevirtual 25, 3)) : qCallOk C w nL dp n0 n1 pc 1 1 yX7_slotMinutes (.code yX7_slotMinutes cX7_slotMinutes 1 (some .int)) := kindV h d ml_X7_25 im_X7_slotMinutes se_X7_slotMinutes in_ParentEve_Rules co_X7_slotMinutes yk_X7_slotMinutes (by decide)
theorem ml_X7_29 : Jvm.Cond.methodLinkNest RX7 29 yX11_slotsFrom "ParentEve" ∈ qTw := qm6 (List.mem_of_getElem? (i := 50) (by decide +kernel)) (by decide +kernel)
theorem kd_X7_29 {C : qCx} {w : qWp} {cc : ByteArray} {nL dp n0 n1 pc : Nat} (h : qOk C w RX7 cc nL dp n0 n1) (d : decode cc pc = .ok (.invokestatic 29, 3)) : qCallOk C w nL dp n0 n1 pc 2 0 yX11_slotsFrom (.code yX11_slotsFrom cX11_slotsFrom 4 (some .int)) := kindSN h d ml_X7_29 im_X11_slotsFrom in_ParentEve co_X11_slotsFrom yk_X11_slotsFrom (by decide)
theorem dX7_slotsNotAheadOf_0 : decode cX7_slotsNotAheadOf 0 = .ok (.aload_n 0, 1) := by decide +kernel
theorem dX7_slotsNotAheadOf_1 : decode cX7_slotsNotAheadOf 1 = .ok (.invokevirtual 25, 3) := by decide +kernel
theorem dX7_slotsNotAheadOf_4 : decode cX7_slotsNotAheadOf 4 = .ok (.istore_n 2, 1) := by decide +kernel
theorem dX7_slotsNotAheadOf_5 : decode cX7_slotsNotAheadOf 5 = .ok (.iload_n 1, 1) := by decide +kernel
theorem dX7_slotsNotAheadOf_6 : decode cX7_slotsNotAheadOf 6 = .ok (.iload_n 2, 1) := by decide +kernel
theorem dX7_slotsNotAheadOf_7 : decode cX7_slotsNotAheadOf 7 = .ok (.iadd, 1) := by decide +kernel
theorem dX7_slotsNotAheadOf_8 : decode cX7_slotsNotAheadOf 8 = .ok (.iconst 1, 1) := by decide +kernel
theorem dX7_slotsNotAheadOf_9 : decode cX7_slotsNotAheadOf 9 = .ok (.isub, 1) := by decide +kernel
theorem dX7_slotsNotAheadOf_10 : decode cX7_slotsNotAheadOf 10 = .ok (.iload_n 2, 1) := by decide +kernel
theorem dX7_slotsNotAheadOf_11 : decode cX7_slotsNotAheadOf 11 = .ok (.idiv, 1) := by decide +kernel
theorem dX7_slotsNotAheadOf_12 : decode cX7_slotsNotAheadOf 12 = .ok (.bipush 19, 2) := by decide +kernel
theorem dX7_slotsNotAheadOf_14 : decode cX7_slotsNotAheadOf 14 = .ok (.invokestatic 29, 3) := by decide +kernel
theorem dX7_slotsNotAheadOf_17 : decode cX7_slotsNotAheadOf 17 = .ok (.ireturn, 1) := by decide +kernel
noncomputable def tX7_slotsNotAheadOf_0 : qT (Int32 × qM) :=
  oLa 0 (oCi GX7_slotMinutes 1 (oSi 2 (oLi 1 (oLi 2 (o2 (· + ·) (oC (.int (1 : Int32)) (o2 (· - ·) (oLi 2 (oDiv (oC (.int (19 : Int32)) (oCi GX11_slotsFrom 2 (eI))))))))))))
set_option maxRecDepth 20000 in
theorem sX7_slotsNotAheadOf_0 {C : qCx} {w : qWp} (h : qOk C w RX7 cX7_slotsNotAheadOf 3 2 155 155) (hm : qMt C (some .int)) (hx : qNx C) : qSnd C w 3 155 (qQf C w 155 155 jI) qfin 155 0 (tX7_slotsNotAheadOf_0) :=
  cLa (pc := 0) h dX7_slotsNotAheadOf_0 rfl (kCi (pc := 1) h (kd_X7_25 h dX7_slotsNotAheadOf_1) spX7_slotMinutes (by decide) (by decide) (by decide) (by decide) (cSi (pc := 4) h dX7_slotsNotAheadOf_4 rfl (cLi (pc := 5) h dX7_slotsNotAheadOf_5 rfl (cLi (pc := 6) h dX7_slotsNotAheadOf_6 rfl (aAdd (pc := 7) h dX7_slotsNotAheadOf_7 (cC (pc := 8) h dX7_slotsNotAheadOf_8 rfl (aSub (pc := 9) h dX7_slotsNotAheadOf_9 (cLi (pc := 10) h dX7_slotsNotAheadOf_10 rfl (aDiv (pc := 11) h dX7_slotsNotAheadOf_11 (cB (pc := 12) h dX7_slotsNotAheadOf_12 rfl (kCi (pc := 14) h (kd_X7_29 h dX7_slotsNotAheadOf_14) spX11_slotsFrom (by decide) (by decide) (by decide) (by decide) (zI (pc := 17) h hm (Nat.le_refl _) dX7_slotsNotAheadOf_17))))))))))))
set_option maxRecDepth 20000 in
theorem lX7_slotsNotAheadOf_0 (a1 : Int32) (m : qM) : tX7_slotsNotAheadOf_0 [some (.ref 4), some (.int a1), none] [] m = fX7_slotsNotAheadOf_0 a1 m := rfl
noncomputable def GX7_slotsNotAheadOf : qG Int32 := fun av m => match av with
  | [.ref 4, .int a1] => fX7_slotsNotAheadOf a1 m
  | _ => none
theorem spX7_slotsNotAheadOf : qSpI yX7_slotsNotAheadOf (.code yX7_slotsNotAheadOf cX7_slotsNotAheadOf 3 (some .int)) 2 qfin 155 155 1 GX7_slotsNotAheadOf := by
  intro av m x m' hG
  unfold GX7_slotsNotAheadOf at hG
  split at hG
  · rename_i a1
    rw [fX7_slotsNotAheadOf_d] at hG
    exact ⟨qmeet (J := jI) (r := (x, m')) (av := [.ref 4, .int a1]) (by decide +kernel) (Nat.le_of_ble_eq_true rfl) (fun C w h hm hx hn => sX7_slotsNotAheadOf_0 h hm hx) ((lX7_slotsNotAheadOf_0 _ _).trans hG) (Nat.le_of_ble_eq_true rfl), Or.inl ⟨4, _, 7, _, _, rfl, by decide, rfl, qCk_7, rfl⟩⟩
  · cases hG
theorem ml_X7_33 : Jvm.Cond.methodLink RX7 33 yX6_open ∈ qTw := qm3 (List.mem_of_getElem? (i := 3) (by decide +kernel)) (by decide +kernel)
theorem kd_X7_33 {C : qCx} {w : qWp} {cc : ByteArray} {nL dp n0 n1 pc : Nat} (h : qOk C w RX7 cc nL dp n0 n1) (d : decode cc pc = .ok (.invokevirtual 33, 3)) : qCallOk C w nL dp n0 n1 pc 1 1 yX6_open (.code yX6_open cX6_open 1 none) := kindV h d ml_X7_33 im_X6_open se_X6_open in_ParentEve_Reader co_X6_open yk_X6_open (by decide)
theorem ml_X7_38 : Jvm.Cond.methodLink RX7 38 yX6_step ∈ qTw := qm3 (List.mem_of_getElem? (i := 7) (by decide +kernel)) (by decide +kernel)
theorem kd_X7_38 {C : qCx} {w : qWp} {cc : ByteArray} {nL dp n0 n1 pc : Nat} (h : qOk C w RX7 cc nL dp n0 n1) (d : decode cc pc = .ok (.invokevirtual 38, 3)) : qCallOk C w nL dp n0 n1 pc 1 1 yX6_step (.code yX6_step cX6_step 2 none) := kindV h d ml_X7_38 im_X6_step se_X6_step in_ParentEve_Reader co_X6_step yk_X6_step (by decide)
theorem ml_X7_41 : Jvm.Cond.methodLink RX7 41 yX6_isAtEnd ∈ qTw := qm3 (List.mem_of_getElem? (i := 26) (by decide +kernel)) (by decide +kernel)
theorem kd_X7_41 {C : qCx} {w : qWp} {cc : ByteArray} {nL dp n0 n1 pc : Nat} (h : qOk C w RX7 cc nL dp n0 n1) (d : decode cc pc = .ok (.invokevirtual 41, 3)) : qCallOk C w nL dp n0 n1 pc 1 1 yX6_isAtEnd (.code yX6_isAtEnd cX6_isAtEnd 1 (some .boolean)) := kindV h d ml_X7_41 im_X6_isAtEnd se_X6_isAtEnd in_ParentEve_Reader co_X6_isAtEnd yk_X6_isAtEnd (by decide)
theorem fs_X7_51 : (RX7, 51, "slot floor door late rest apart", 10100) ∈ qStr := by decide +kernel
theorem ml_X7_53 : Jvm.Cond.methodLink RX7 53 yX6_wordOf ∈ qTw := qm3 (List.mem_of_getElem? (i := 34) (by decide +kernel)) (by decide +kernel)
theorem kd_X7_53 {C : qCx} {w : qWp} {cc : ByteArray} {nL dp n0 n1 pc : Nat} (h : qOk C w RX7 cc nL dp n0 n1) (d : decode cc pc = .ok (.invokevirtual 53, 3)) : qCallOk C w nL dp n0 n1 pc 2 1 yX6_wordOf (.code yX6_wordOf cX6_wordOf 5 (some .int)) := kindV h d ml_X7_53 im_X6_wordOf se_X6_wordOf in_ParentEve_Reader co_X6_wordOf yk_X6_wordOf (by decide)
theorem ml_X7_61 : Jvm.Cond.methodLinkNest RX7 61 yX11_has "ParentEve" ∈ qTw := qm3 (List.mem_of_getElem? (i := 95) (by decide +kernel)) (by decide +kernel)
theorem kd_X7_61 {C : qCx} {w : qWp} {cc : ByteArray} {nL dp n0 n1 pc : Nat} (h : qOk C w RX7 cc nL dp n0 n1) (d : decode cc pc = .ok (.invokestatic 61, 3)) : qCallOk C w nL dp n0 n1 pc 2 0 yX11_has (.code yX11_has cX11_has 2 (some .boolean)) := kindSN h d ml_X7_61 im_X11_has in_ParentEve co_X11_has yk_X11_has (by decide)
theorem mfz_X7_65 : Jvm.Cond.fieldLinkNest RX7 65 "ParentEve" "RULE_LEAST" "[I" "ParentEve" ∈ qTw := qm3 (List.mem_of_getElem? (i := 98) (by decide +kernel)) (by decide +kernel)
theorem fz_X7_65 {ρ : Type} {C : qCx} {w : qWp} {cc : ByteArray} {nL dp n0 n1 pc n : Nat} {Qf : ρ → State → Prop} {fin : Nat → Nat → Option Nat} {t : qT ρ} (h : qOk C w RX7 cc nL dp n0 n1) (d : decode cc pc = .ok (.getstatic 65, 3)) (k : qSnd C w nL n0 Qf fin n (pc + 3) t) : qSnd C w nL n0 Qf fin n pc (oC (.ref 10001) t) := cGsN h d mfz_X7_65 (qOk_G h).2.2.2.2.1 k
theorem fx_10001 {C : qCx} {w : qWp} {own : String} {cc : ByteArray} {nL dp n0 n1 : Nat} (h : qOk C w own cc nL dp n0 n1) : ∃ a, w.2.1 10001 = .ref a ∧ va_T .int a 6 (fun i => .int (qx10001 i)) (qAd w.1) (qSt C) (qSt C).heap := (qOk_G h).2.1
theorem mfz_X7_68 : Jvm.Cond.fieldLinkNest RX7 68 "ParentEve" "RULE_GREATEST" "[I" "ParentEve" ∈ qTw := qm3 (List.mem_of_getElem? (i := 100) (by decide +kernel)) (by decide +kernel)
theorem fz_X7_68 {ρ : Type} {C : qCx} {w : qWp} {cc : ByteArray} {nL dp n0 n1 pc n : Nat} {Qf : ρ → State → Prop} {fin : Nat → Nat → Option Nat} {t : qT ρ} (h : qOk C w RX7 cc nL dp n0 n1) (d : decode cc pc = .ok (.getstatic 68, 3)) (k : qSnd C w nL n0 Qf fin n (pc + 3) t) : qSnd C w nL n0 Qf fin n pc (oC (.ref 10002) t) := cGsN h d mfz_X7_68 (qOk_G h).2.2.2.2.2.1 k
theorem fx_10002 {C : qCx} {w : qWp} {own : String} {cc : ByteArray} {nL dp n0 n1 : Nat} (h : qOk C w own cc nL dp n0 n1) : ∃ a, w.2.1 10002 = .ref a ∧ va_T .int a 6 (fun i => .int (qx10002 i)) (qAd w.1) (qSt C) (qSt C).heap := (qOk_G h).2.2.1
theorem ml_X7_71 : Jvm.Cond.methodLink RX7 71 yX6_takeNumber ∈ qTw := qm3 (List.mem_of_getElem? (i := 102) (by decide +kernel)) (by decide +kernel)
theorem kd_X7_71 {C : qCx} {w : qWp} {cc : ByteArray} {nL dp n0 n1 pc : Nat} (h : qOk C w RX7 cc nL dp n0 n1) (d : decode cc pc = .ok (.invokevirtual 71, 3)) : qCallOk C w nL dp n0 n1 pc 3 1 yX6_takeNumber (.code yX6_takeNumber cX6_takeNumber 5 (some .int)) := kindV h d ml_X7_71 im_X6_takeNumber se_X6_takeNumber in_ParentEve_Reader co_X6_takeNumber yk_X6_takeNumber (by decide)
theorem ml_X7_74 : Jvm.Cond.methodLink RX7 74 yX6_takeSemicolon ∈ qTw := qm3 (List.mem_of_getElem? (i := 108) (by decide +kernel)) (by decide +kernel)
theorem kd_X7_74 {C : qCx} {w : qWp} {cc : ByteArray} {nL dp n0 n1 pc : Nat} (h : qOk C w RX7 cc nL dp n0 n1) (d : decode cc pc = .ok (.invokevirtual 74, 3)) : qCallOk C w nL dp n0 n1 pc 1 1 yX6_takeSemicolon (.code yX6_takeSemicolon cX6_takeSemicolon 1 (some .boolean)) := kindV h d ml_X7_74 im_X6_takeSemicolon se_X6_takeSemicolon in_ParentEve_Reader co_X6_takeSemicolon yk_X6_takeSemicolon (by decide)
theorem ml_X7_57 : Jvm.Cond.methodLink RX7 57 yX6_fail ∈ qTw := qm3 (List.mem_of_getElem? (i := 91) (by decide +kernel)) (by decide +kernel)
theorem kd_X7_57 {C : qCx} {w : qWp} {cc : ByteArray} {nL dp n0 n1 pc : Nat} (h : qOk C w RX7 cc nL dp n0 n1) (d : decode cc pc = .ok (.invokevirtual 57, 3)) : qCallOk C w nL dp n0 n1 pc 2 1 yX6_fail (.code yX6_fail cX6_fail 2 (some .int)) := kindV h d ml_X7_57 im_X6_fail se_X6_fail in_ParentEve_Reader co_X6_fail yk_X6_fail (by decide)
theorem fy_X7_45 : Jvm.Cond.methodLink RX7 45 arraycopyName ∈ qTw := qm3 (List.mem_of_getElem? (i := 30) (by decide +kernel)) (by decide +kernel)
theorem dX7_takeText_0 : decode cX7_takeText 0 = .ok (.iconst 0, 1) := by decide +kernel
theorem dX7_takeText_1 : decode cX7_takeText 1 = .ok (.istore_n 2, 1) := by decide +kernel
theorem dX7_takeText_2 : decode cX7_takeText 2 = .ok (.iload_n 2, 1) := by decide +kernel
theorem dX7_takeText_3 : decode cX7_takeText 3 = .ok (.bipush 6, 2) := by decide +kernel
theorem dX7_takeText_5 : decode cX7_takeText 5 = .ok (.if_icmp .ge 20, 3) := by decide +kernel
theorem dX7_takeText_8 : decode cX7_takeText 8 = .ok (.aload_n 0, 1) := by decide +kernel
theorem dX7_takeText_9 : decode cX7_takeText 9 = .ok (.getfield 15, 3) := by decide +kernel
theorem dX7_takeText_12 : decode cX7_takeText 12 = .ok (.iload_n 2, 1) := by decide +kernel
theorem dX7_takeText_13 : decode cX7_takeText 13 = .ok (.getstatic 18, 3) := by decide +kernel
theorem dX7_takeText_16 : decode cX7_takeText 16 = .ok (.iload_n 2, 1) := by decide +kernel
theorem dX7_takeText_17 : decode cX7_takeText 17 = .ok (.iaload, 1) := by decide +kernel
theorem dX7_takeText_18 : decode cX7_takeText 18 = .ok (.iastore, 1) := by decide +kernel
theorem dX7_takeText_19 : decode cX7_takeText 19 = .ok (.iinc 2 1, 3) := by decide +kernel
theorem dX7_takeText_22 : decode cX7_takeText 22 = .ok (.goto (-20), 3) := by decide +kernel
theorem dX7_takeText_25 : decode cX7_takeText 25 = .ok (.iconst 0, 1) := by decide +kernel
theorem dX7_takeText_26 : decode cX7_takeText 26 = .ok (.istore_n 2, 1) := by decide +kernel
theorem dX7_takeText_27 : decode cX7_takeText 27 = .ok (.aload_n 1, 1) := by decide +kernel
theorem dX7_takeText_28 : decode cX7_takeText 28 = .ok (.invokevirtual 33, 3) := by decide +kernel
theorem dX7_takeText_31 : decode cX7_takeText 31 = .ok (.iconst 0, 1) := by decide +kernel
theorem dX7_takeText_32 : decode cX7_takeText 32 = .ok (.istore_n 3, 1) := by decide +kernel
theorem dX7_takeText_33 : decode cX7_takeText 33 = .ok (.iload_n 3, 1) := by decide +kernel
theorem dX7_takeText_34 : decode cX7_takeText 34 = .ok (.bipush 6, 2) := by decide +kernel
theorem dX7_takeText_36 : decode cX7_takeText 36 = .ok (.if_icmp .gt 126, 3) := by decide +kernel
theorem dX7_takeText_39 : decode cX7_takeText 39 = .ok (.aload_n 1, 1) := by decide +kernel
theorem dX7_takeText_40 : decode cX7_takeText 40 = .ok (.invokevirtual 38, 3) := by decide +kernel
theorem dX7_takeText_43 : decode cX7_takeText 43 = .ok (.aload_n 1, 1) := by decide +kernel
theorem dX7_takeText_44 : decode cX7_takeText 44 = .ok (.invokevirtual 41, 3) := by decide +kernel
theorem dX7_takeText_47 : decode cX7_takeText 47 = .ok (.ifCond .eq 20, 3) := by decide +kernel
theorem dX7_takeText_50 : decode cX7_takeText 50 = .ok (.aload_n 0, 1) := by decide +kernel
theorem dX7_takeText_51 : decode cX7_takeText 51 = .ok (.getfield 15, 3) := by decide +kernel
theorem dX7_takeText_54 : decode cX7_takeText 54 = .ok (.iconst 0, 1) := by decide +kernel
theorem dX7_takeText_55 : decode cX7_takeText 55 = .ok (.aload_n 0, 1) := by decide +kernel
theorem dX7_takeText_56 : decode cX7_takeText 56 = .ok (.getfield 9, 3) := by decide +kernel
theorem dX7_takeText_59 : decode cX7_takeText 59 = .ok (.iconst 0, 1) := by decide +kernel
theorem dX7_takeText_60 : decode cX7_takeText 60 = .ok (.bipush 6, 2) := by decide +kernel
theorem dX7_takeText_62 : decode cX7_takeText 62 = .ok (.invokestatic 45, 3) := by decide +kernel
theorem dX7_takeText_65 : decode cX7_takeText 65 = .ok (.iload_n 3, 1) := by decide +kernel
theorem dX7_takeText_66 : decode cX7_takeText 66 = .ok (.ireturn, 1) := by decide +kernel
theorem dX7_takeText_67 : decode cX7_takeText 67 = .ok (.aload_n 1, 1) := by decide +kernel
theorem dX7_takeText_68 : decode cX7_takeText 68 = .ok (.ldc 51, 2) := by decide +kernel
theorem dX7_takeText_70 : decode cX7_takeText 70 = .ok (.invokevirtual 53, 3) := by decide +kernel
theorem dX7_takeText_73 : decode cX7_takeText 73 = .ok (.istore 4, 2) := by decide +kernel
theorem dX7_takeText_75 : decode cX7_takeText 75 = .ok (.iload 4, 2) := by decide +kernel
theorem dX7_takeText_77 : decode cX7_takeText 77 = .ok (.iconst 0, 1) := by decide +kernel
theorem dX7_takeText_78 : decode cX7_takeText 78 = .ok (.iconst 5, 1) := by decide +kernel
theorem dX7_takeText_79 : decode cX7_takeText 79 = .ok (.invokestatic 21, 3) := by decide +kernel
theorem dX7_takeText_82 : decode cX7_takeText 82 = .ok (.ifCond .ne 9, 3) := by decide +kernel
theorem dX7_takeText_85 : decode cX7_takeText 85 = .ok (.aload_n 1, 1) := by decide +kernel
theorem dX7_takeText_86 : decode cX7_takeText 86 = .ok (.iconst 1, 1) := by decide +kernel
theorem dX7_takeText_87 : decode cX7_takeText 87 = .ok (.invokevirtual 57, 3) := by decide +kernel
theorem dX7_takeText_90 : decode cX7_takeText 90 = .ok (.ireturn, 1) := by decide +kernel
theorem dX7_takeText_91 : decode cX7_takeText 91 = .ok (.iload_n 2, 1) := by decide +kernel
theorem dX7_takeText_92 : decode cX7_takeText 92 = .ok (.iload 4, 2) := by decide +kernel
theorem dX7_takeText_94 : decode cX7_takeText 94 = .ok (.invokestatic 61, 3) := by decide +kernel
theorem dX7_takeText_97 : decode cX7_takeText 97 = .ok (.ifCond .eq 9, 3) := by decide +kernel
theorem dX7_takeText_100 : decode cX7_takeText 100 = .ok (.aload_n 1, 1) := by decide +kernel
theorem dX7_takeText_101 : decode cX7_takeText 101 = .ok (.iconst 3, 1) := by decide +kernel
theorem dX7_takeText_102 : decode cX7_takeText 102 = .ok (.invokevirtual 57, 3) := by decide +kernel
theorem dX7_takeText_105 : decode cX7_takeText 105 = .ok (.ireturn, 1) := by decide +kernel
theorem dX7_takeText_106 : decode cX7_takeText 106 = .ok (.iload_n 2, 1) := by decide +kernel
theorem dX7_takeText_107 : decode cX7_takeText 107 = .ok (.iconst 1, 1) := by decide +kernel
theorem dX7_takeText_108 : decode cX7_takeText 108 = .ok (.iload 4, 2) := by decide +kernel
theorem dX7_takeText_110 : decode cX7_takeText 110 = .ok (.ishl, 1) := by decide +kernel
theorem dX7_takeText_111 : decode cX7_takeText 111 = .ok (.ior, 1) := by decide +kernel
theorem dX7_takeText_112 : decode cX7_takeText 112 = .ok (.istore_n 2, 1) := by decide +kernel
theorem dX7_takeText_113 : decode cX7_takeText 113 = .ok (.aload_n 0, 1) := by decide +kernel
theorem dX7_takeText_114 : decode cX7_takeText 114 = .ok (.getfield 15, 3) := by decide +kernel
theorem dX7_takeText_117 : decode cX7_takeText 117 = .ok (.iload 4, 2) := by decide +kernel
theorem dX7_takeText_119 : decode cX7_takeText 119 = .ok (.aload_n 1, 1) := by decide +kernel
theorem dX7_takeText_120 : decode cX7_takeText 120 = .ok (.getstatic 65, 3) := by decide +kernel
theorem dX7_takeText_123 : decode cX7_takeText 123 = .ok (.iload 4, 2) := by decide +kernel
theorem dX7_takeText_125 : decode cX7_takeText 125 = .ok (.iaload, 1) := by decide +kernel
theorem dX7_takeText_126 : decode cX7_takeText 126 = .ok (.getstatic 68, 3) := by decide +kernel
theorem dX7_takeText_129 : decode cX7_takeText 129 = .ok (.iload 4, 2) := by decide +kernel
theorem dX7_takeText_131 : decode cX7_takeText 131 = .ok (.iaload, 1) := by decide +kernel
theorem dX7_takeText_132 : decode cX7_takeText 132 = .ok (.invokevirtual 71, 3) := by decide +kernel
theorem dX7_takeText_135 : decode cX7_takeText 135 = .ok (.iastore, 1) := by decide +kernel
theorem dX7_takeText_136 : decode cX7_takeText 136 = .ok (.aload_n 0, 1) := by decide +kernel
theorem dX7_takeText_137 : decode cX7_takeText 137 = .ok (.getfield 15, 3) := by decide +kernel
theorem dX7_takeText_140 : decode cX7_takeText 140 = .ok (.iload 4, 2) := by decide +kernel
theorem dX7_takeText_142 : decode cX7_takeText 142 = .ok (.iaload, 1) := by decide +kernel
theorem dX7_takeText_143 : decode cX7_takeText 143 = .ok (.iconst (-1), 1) := by decide +kernel
theorem dX7_takeText_144 : decode cX7_takeText 144 = .ok (.if_icmp .eq 10, 3) := by decide +kernel
theorem dX7_takeText_147 : decode cX7_takeText 147 = .ok (.aload_n 1, 1) := by decide +kernel
theorem dX7_takeText_148 : decode cX7_takeText 148 = .ok (.invokevirtual 74, 3) := by decide +kernel
theorem dX7_takeText_151 : decode cX7_takeText 151 = .ok (.ifCond .ne 5, 3) := by decide +kernel
theorem dX7_takeText_154 : decode cX7_takeText 154 = .ok (.iconst (-1), 1) := by decide +kernel
theorem dX7_takeText_155 : decode cX7_takeText 155 = .ok (.ireturn, 1) := by decide +kernel
theorem dX7_takeText_156 : decode cX7_takeText 156 = .ok (.iinc 3 1, 3) := by decide +kernel
theorem dX7_takeText_159 : decode cX7_takeText 159 = .ok (.goto (-126), 3) := by decide +kernel
theorem dX7_takeText_162 : decode cX7_takeText 162 = .ok (.iconst (-1), 1) := by decide +kernel
theorem dX7_takeText_163 : decode cX7_takeText 163 = .ok (.ireturn, 1) := by decide +kernel
noncomputable def tX7_takeText_2 (j20 : qT (Int32 × qM)) (j2 : qT (Int32 × qM)) : qT (Int32 × qM) :=
  oLi 2 (oC (.int (6 : Int32)) (oCGe (oC (.int (0 : Int32)) (oSi 2 (oLa 1 (oCv GX6_open 1 (oC (.int (0 : Int32)) (oSi 3 (j20))))))) (oLa 0 (oGf 4 1 6 (oLi 2 (oC (.ref 10000) (oLi 2 (oAx 10000 6 qx10000 (oWi 6 6 (oInc 2 (1 : Int32) (j2)))))))))))
noncomputable def wX7_takeText_2 (k : Int32 → qM → Option (Int32 × qM)) : qT (Int32 × qM) := fun lo st m => match lo, st with
  | [some (.ref 4), some (.ref 3), some (.int a2), _, _], [] => k a2 m
  | _, _ => none
noncomputable def wX7_takeText_20 (k : Int32 → Int32 → qM → Option (Int32 × qM)) : qT (Int32 × qM) := fun lo st m => match lo, st with
  | [some (.ref 4), some (.ref 3), some (.int a2), some (.int a3), _], [] => k a2 a3 m
  | _, _ => none
set_option maxRecDepth 20000 in
theorem sX7_takeText_2 {C : qCx} {w : qWp} (h : qOk C w RX7 cX7_takeText 5 6 155 155) (hm : qMt C (some .int)) (hx : qNx C) {j20 : qT (Int32 × qM)} {j2 : qT (Int32 × qM)} (k20 : qSnd C w 5 155 (qQf C w 155 155 jI) qfin 155 33 j20) (k2 : qSnd C w 5 155 (qQf C w 155 155 jI) qfin 155 2 j2) : qSnd C w 5 155 (qQf C w 155 155 jI) qfin 155 2 (tX7_takeText_2 j20 j2) :=
  cLi (pc := 2) h dX7_takeText_2 rfl (cB (pc := 3) h dX7_takeText_3 rfl (jCGe (pc := 5) h dX7_takeText_5 rfl (cC (pc := 25) h dX7_takeText_25 rfl (cSi (pc := 26) h dX7_takeText_26 rfl (cLa (pc := 27) h dX7_takeText_27 rfl (kCv (pc := 28) h (kd_X7_33 h dX7_takeText_28) spX6_open (by decide) (by decide) (by decide) (by decide) (cC (pc := 31) h dX7_takeText_31 rfl (cSi (pc := 32) h dX7_takeText_32 rfl (k20))))))) (cLa (pc := 8) h dX7_takeText_8 rfl (gGf (pc := 9) h dX7_takeText_9 ff_X7_15_4 (Nat.le_of_ble_eq_true rfl) (Nat.le_of_ble_eq_true rfl) rfl (cLi (pc := 12) h dX7_takeText_12 rfl (fz_X7_18 (pc := 13) h dX7_takeText_13 (cLi (pc := 16) h dX7_takeText_16 rfl (rAx (fx_10000 h) h dX7_takeText_17 (rWi (pc := 18) h dX7_takeText_18 rfl (Nat.le_of_ble_eq_true rfl) (Nat.le_of_ble_eq_true rfl) (cInc (pc := 19) h dX7_takeText_19 rfl (jGo (pc := 22) h dX7_takeText_22 rfl (k2))))))))))))
set_option maxRecDepth 20000 in
theorem lX7_takeText_2 (k20 : Int32 → Int32 → qM → Option (Int32 × qM)) (n : Nat) (a2 : Int32) (m : qM) : tX7_takeText_2 (wX7_takeText_20 k20) (wX7_takeText_2 ((fX7_takeText_2 k20 n))) [some (.ref 4), some (.ref 3), some (.int a2), none, none] [] m = fX7_takeText_2 k20 (n + 1) a2 m := rfl
theorem bX7_takeText_2 {C : qCx} {w : qWp} (h : qOk C w RX7 cX7_takeText 5 6 155 155) (hm : qMt C (some .int)) (hx : qNx C) {k20 : Int32 → Int32 → qM → Option (Int32 × qM)} (h20 : qSnd C w 5 155 (qQf C w 155 155 jI) qfin 155 33 (wX7_takeText_20 k20)) : ∀ n : Nat, qSnd C w 5 155 (qQf C w 155 155 jI) qfin 155 2 (wX7_takeText_2 (fX7_takeText_2 k20 n))
  | 0 => qSnd_of0 (fun lo st m x hr0 => by
    unfold wX7_takeText_2 at hr0
    split at hr0
    · cases hr0
    · cases hr0)
  | n + 1 => by
    have ih := bX7_takeText_2 h hm hx h20 n
    exact qSnd_of (fun lo st m x hr0 => by
    unfold wX7_takeText_2 at hr0
    split at hr0
    · exact ⟨_, (qsub_e (qsub_e (qsub_e (qsub_n (qsub_n qsub_nil))))), (lX7_takeText_2 _ n _ _).trans hr0⟩
    · cases hr0) (sX7_takeText_2 h hm hx h20 ih)
noncomputable def tX7_takeText_20 (j86 : qT (Int32 × qM)) (j20 : qT (Int32 × qM)) : qT (Int32 × qM) :=
  oLi 3 (oC (.int (6 : Int32)) (oCGt (oC (.int (-1 : Int32)) (eI)) (oLa 1 (oCv GX6_step 1 (oLa 1 (oCi GX6_isAtEnd 1 (oEq (oLa 1 (oC (.ref 10100) (oCi GX6_wordOf 2 (oSi 4 (oLi 4 (oC (.int (0 : Int32)) (oC (.int (5 : Int32)) (oCi GX11_within 3 (oEq (oLa 1 (oC (.int (1 : Int32)) (oCi GX6_fail 2 (eI)))) (oLi 2 (oLi 4 (oCi GX11_has 2 (oEq (oLi 2 (oC (.int (1 : Int32)) (oLi 4 (o2 (fun x y => x <<< (y &&& 31)) (o2 (· ||| ·) (oSi 2 (oLa 0 (oGf 4 1 6 (oLi 4 (oLa 1 (oC (.ref 10001) (oLi 4 (oAx 10001 6 qx10001 (oC (.ref 10002) (oLi 4 (oAx 10002 6 qx10002 (oCi GX6_takeNumber 3 (oWi 6 6 (oLa 0 (oGf 4 1 6 (oLi 4 (oAi 6 6 (oC (.int (-1 : Int32)) (oCEq (j86) (oLa 1 (oCi GX6_takeSemicolon 1 (oEq (j86) (oInc 3 (1 : Int32) (j20))))))))))))))))))))))))))))) (oLa 1 (oC (.int (3 : Int32)) (oCi GX6_fail 2 (eI))))))))))))))))) (oLa 0 (oGf 4 1 6 (oC (.int (0 : Int32)) (oLa 0 (oGf 4 0 5 (oC (.int (0 : Int32)) (oC (.int (6 : Int32)) (oCopy 6 5 6 6 (oLi 3 (eI)))))))))))))))))
noncomputable def wX7_takeText_86 (k : qM → Option (Int32 × qM)) : qT (Int32 × qM) := fun lo st m => match lo, st with
  | [_, _, _, _, _], [] => k m
  | _, _ => none
set_option maxRecDepth 20000 in
theorem sX7_takeText_20 {C : qCx} {w : qWp} (h : qOk C w RX7 cX7_takeText 5 6 155 155) (hm : qMt C (some .int)) (hx : qNx C) {j86 : qT (Int32 × qM)} {j20 : qT (Int32 × qM)} (k86 : qSnd C w 5 155 (qQf C w 155 155 jI) qfin 155 154 j86) (k20 : qSnd C w 5 155 (qQf C w 155 155 jI) qfin 155 33 j20) : qSnd C w 5 155 (qQf C w 155 155 jI) qfin 155 33 (tX7_takeText_20 j86 j20) :=
  cLi (pc := 33) h dX7_takeText_33 rfl (cB (pc := 34) h dX7_takeText_34 rfl (jCGt (pc := 36) h dX7_takeText_36 rfl (cC (pc := 162) h dX7_takeText_162 rfl (zI (pc := 163) h hm (Nat.le_refl _) dX7_takeText_163)) (cLa (pc := 39) h dX7_takeText_39 rfl (kCv (pc := 40) h (kd_X7_38 h dX7_takeText_40) spX6_step (by decide) (by decide) (by decide) (by decide) (cLa (pc := 43) h dX7_takeText_43 rfl (kCi (pc := 44) h (kd_X7_41 h dX7_takeText_44) spX6_isAtEnd (by decide) (by decide) (by decide) (by decide) (jEq (pc := 47) h dX7_takeText_47 rfl (cLa (pc := 67) h dX7_takeText_67 rfl (cStr (pc := 68) h dX7_takeText_68 fs_X7_51 (kCi (pc := 70) h (kd_X7_53 h dX7_takeText_70) spX6_wordOf (by decide) (by decide) (by decide) (by decide) (cSI (pc := 73) h dX7_takeText_73 (cLI (pc := 75) h dX7_takeText_75 (cC (pc := 77) h dX7_takeText_77 rfl (cC (pc := 78) h dX7_takeText_78 rfl (kCi (pc := 79) h (kd_X7_21 h dX7_takeText_79) spX11_within (by decide) (by decide) (by decide) (by decide) (jNe (pc := 82) h dX7_takeText_82 rfl (cLi (pc := 91) h dX7_takeText_91 rfl (cLI (pc := 92) h dX7_takeText_92 (kCi (pc := 94) h (kd_X7_61 h dX7_takeText_94) spX11_has (by decide) (by decide) (by decide) (by decide) (jEq (pc := 97) h dX7_takeText_97 rfl (cLi (pc := 106) h dX7_takeText_106 rfl (cC (pc := 107) h dX7_takeText_107 rfl (cLI (pc := 108) h dX7_takeText_108 (aShl (pc := 110) h dX7_takeText_110 (aOr (pc := 111) h dX7_takeText_111 (cSi (pc := 112) h dX7_takeText_112 rfl (cLa (pc := 113) h dX7_takeText_113 rfl (gGf (pc := 114) h dX7_takeText_114 ff_X7_15_4 (Nat.le_of_ble_eq_true rfl) (Nat.le_of_ble_eq_true rfl) rfl (cLI (pc := 117) h dX7_takeText_117 (cLa (pc := 119) h dX7_takeText_119 rfl (fz_X7_65 (pc := 120) h dX7_takeText_120 (cLI (pc := 123) h dX7_takeText_123 (rAx (fx_10001 h) h dX7_takeText_125 (fz_X7_68 (pc := 126) h dX7_takeText_126 (cLI (pc := 129) h dX7_takeText_129 (rAx (fx_10002 h) h dX7_takeText_131 (kCi (pc := 132) h (kd_X7_71 h dX7_takeText_132) spX6_takeNumber (by decide) (by decide) (by decide) (by decide) (rWi (pc := 135) h dX7_takeText_135 rfl (Nat.le_of_ble_eq_true rfl) (Nat.le_of_ble_eq_true rfl) (cLa (pc := 136) h dX7_takeText_136 rfl (gGf (pc := 137) h dX7_takeText_137 ff_X7_15_4 (Nat.le_of_ble_eq_true rfl) (Nat.le_of_ble_eq_true rfl) rfl (cLI (pc := 140) h dX7_takeText_140 (rAi (pc := 142) h dX7_takeText_142 rfl (Nat.le_of_ble_eq_true rfl) (Nat.le_of_ble_eq_true rfl) (cC (pc := 143) h dX7_takeText_143 rfl (jCEq (pc := 144) h dX7_takeText_144 rfl (k86) (cLa (pc := 147) h dX7_takeText_147 rfl (kCi (pc := 148) h (kd_X7_74 h dX7_takeText_148) spX6_takeSemicolon (by decide) (by decide) (by decide) (by decide) (jNe (pc := 151) h dX7_takeText_151 rfl (cInc (pc := 156) h dX7_takeText_156 rfl (jGo (pc := 159) h dX7_takeText_159 rfl (k20))) (k86)))))))))))))))))))))))))))) (cLa (pc := 100) h dX7_takeText_100 rfl (cC (pc := 101) h dX7_takeText_101 rfl (kCi (pc := 102) h (kd_X7_57 h dX7_takeText_102) spX6_fail (by decide) (by decide) (by decide) (by decide) (zI (pc := 105) h hm (Nat.le_refl _) dX7_takeText_105)))))))) (cLa (pc := 85) h dX7_takeText_85 rfl (cC (pc := 86) h dX7_takeText_86 rfl (kCi (pc := 87) h (kd_X7_57 h dX7_takeText_87) spX6_fail (by decide) (by decide) (by decide) (by decide) (zI (pc := 90) h hm (Nat.le_refl _) dX7_takeText_90))))))))))))) (cLa (pc := 50) h dX7_takeText_50 rfl (gGf (pc := 51) h dX7_takeText_51 ff_X7_15_4 (Nat.le_of_ble_eq_true rfl) (Nat.le_of_ble_eq_true rfl) rfl (cC (pc := 54) h dX7_takeText_54 rfl (cLa (pc := 55) h dX7_takeText_55 rfl (gGf (pc := 56) h dX7_takeText_56 ff_X7_9_4 (Nat.le_of_ble_eq_true rfl) (Nat.le_of_ble_eq_true rfl) rfl (cC (pc := 59) h dX7_takeText_59 rfl (cB (pc := 60) h dX7_takeText_60 rfl (nCopy (pc := 62) h dX7_takeText_62 fy_X7_45 fy_nat fy_stat fy_init rfl rfl (Nat.le_of_ble_eq_true rfl) (Nat.le_of_ble_eq_true rfl) (Nat.le_of_ble_eq_true rfl) (by decide) (cLi (pc := 65) h dX7_takeText_65 rfl (zI (pc := 66) h hm (Nat.le_refl _) dX7_takeText_66)))))))))))))))))
set_option maxRecDepth 20000 in
theorem lX7_takeText_20 (k86 : qM → Option (Int32 × qM)) (n : Nat) (a2 : Int32) (a3 : Int32) (m : qM) : tX7_takeText_20 (wX7_takeText_86 k86) (wX7_takeText_20 ((fX7_takeText_20 k86 n))) [some (.ref 4), some (.ref 3), some (.int a2), some (.int a3), none] [] m = fX7_takeText_20 k86 (n + 1) a2 a3 m := rfl
theorem bX7_takeText_20 {C : qCx} {w : qWp} (h : qOk C w RX7 cX7_takeText 5 6 155 155) (hm : qMt C (some .int)) (hx : qNx C) {k86 : qM → Option (Int32 × qM)} (h86 : qSnd C w 5 155 (qQf C w 155 155 jI) qfin 155 154 (wX7_takeText_86 k86)) : ∀ n : Nat, qSnd C w 5 155 (qQf C w 155 155 jI) qfin 155 33 (wX7_takeText_20 (fX7_takeText_20 k86 n))
  | 0 => qSnd_of0 (fun lo st m x hr0 => by
    unfold wX7_takeText_20 at hr0
    split at hr0
    · cases hr0
    · cases hr0)
  | n + 1 => by
    have ih := bX7_takeText_20 h hm hx h86 n
    exact qSnd_of (fun lo st m x hr0 => by
    unfold wX7_takeText_20 at hr0
    split at hr0
    · exact ⟨_, (qsub_e (qsub_e (qsub_e (qsub_e (qsub_n qsub_nil))))), (lX7_takeText_20 _ n _ _ _).trans hr0⟩
    · cases hr0) (sX7_takeText_20 h hm hx h86 ih)
noncomputable def tX7_takeText_86 : qT (Int32 × qM) :=
  oC (.int (-1 : Int32)) (eI)
set_option maxRecDepth 20000 in
theorem sX7_takeText_86 {C : qCx} {w : qWp} (h : qOk C w RX7 cX7_takeText 5 6 155 155) (hm : qMt C (some .int)) (hx : qNx C) : qSnd C w 5 155 (qQf C w 155 155 jI) qfin 155 154 (tX7_takeText_86) :=
  cC (pc := 154) h dX7_takeText_154 rfl (zI (pc := 155) h hm (Nat.le_refl _) dX7_takeText_155)
set_option maxRecDepth 20000 in
theorem lX7_takeText_86 (m : qM) : tX7_takeText_86 [none, none, none, none, none] [] m = fX7_takeText_86 m := rfl
theorem bX7_takeText_86 {C : qCx} {w : qWp} (h : qOk C w RX7 cX7_takeText 5 6 155 155) (hm : qMt C (some .int)) (hx : qNx C) : qSnd C w 5 155 (qQf C w 155 155 jI) qfin 155 154 (wX7_takeText_86 fX7_takeText_86) :=
  qSnd_of (fun lo st m x hr0 => by
    unfold wX7_takeText_86 at hr0
    split at hr0
    · exact ⟨_, (qsub_n (qsub_n (qsub_n (qsub_n (qsub_n qsub_nil))))), (lX7_takeText_86 _).trans hr0⟩
    · cases hr0) (sX7_takeText_86 h hm hx)
noncomputable def tX7_takeText_0 (j2 : qT (Int32 × qM)) : qT (Int32 × qM) :=
  oC (.int (0 : Int32)) (oSi 2 (j2))
set_option maxRecDepth 20000 in
theorem sX7_takeText_0 {C : qCx} {w : qWp} (h : qOk C w RX7 cX7_takeText 5 6 155 155) (hm : qMt C (some .int)) (hx : qNx C) {j2 : qT (Int32 × qM)} (k2 : qSnd C w 5 155 (qQf C w 155 155 jI) qfin 155 2 j2) : qSnd C w 5 155 (qQf C w 155 155 jI) qfin 155 0 (tX7_takeText_0 j2) :=
  cC (pc := 0) h dX7_takeText_0 rfl (cSi (pc := 1) h dX7_takeText_1 rfl (k2))
set_option maxRecDepth 20000 in
theorem lX7_takeText_0 (m : qM) : tX7_takeText_0 (wX7_takeText_2 (fX7_takeText_2 (fX7_takeText_20 fX7_takeText_86 FU) FU)) [some (.ref 4), some (.ref 3), none, none, none] [] m = fX7_takeText_0 m := rfl
noncomputable def GX7_takeText : qG Int32 := fun av m => match av with
  | [.ref 4, .ref 3] => fX7_takeText m
  | _ => none
theorem spX7_takeText : qSpI yX7_takeText (.code yX7_takeText cX7_takeText 5 (some .int)) 6 qfin 155 155 1 GX7_takeText := by
  intro av m x m' hG
  unfold GX7_takeText at hG
  split at hG
  · rw [fX7_takeText_d] at hG
    exact ⟨qmeet (J := jI) (r := (x, m')) (av := [.ref 4, .ref 3]) (by decide +kernel) (Nat.le_of_ble_eq_true rfl) (fun C w h hm hx hn => sX7_takeText_0 h hm hx (bX7_takeText_2 h hm hx (bX7_takeText_20 h hm hx (bX7_takeText_86 h hm hx) FU) FU)) ((lX7_takeText_0 _).trans hG) (Nat.le_of_ble_eq_true rfl), Or.inl ⟨4, _, 7, _, _, rfl, by decide, rfl, qCk_7, rfl⟩⟩
  · cases hG
theorem dX8_addFour_0 : decode cX8_addFour 0 = .ok (.bipush 24, 2) := by decide +kernel
theorem dX8_addFour_2 : decode cX8_addFour 2 = .ok (.istore_n 2, 1) := by decide +kernel
theorem dX8_addFour_3 : decode cX8_addFour 3 = .ok (.iload_n 2, 1) := by decide +kernel
theorem dX8_addFour_4 : decode cX8_addFour 4 = .ok (.ifCond .lt 45, 3) := by decide +kernel
theorem dX8_addFour_7 : decode cX8_addFour 7 = .ok (.aload_n 0, 1) := by decide +kernel
theorem dX8_addFour_8 : decode cX8_addFour 8 = .ok (.getfield 15, 3) := by decide +kernel
theorem dX8_addFour_11 : decode cX8_addFour 11 = .ok (.sipush 400, 3) := by decide +kernel
theorem dX8_addFour_14 : decode cX8_addFour 14 = .ok (.if_icmp .ge 29, 3) := by decide +kernel
theorem dX8_addFour_17 : decode cX8_addFour 17 = .ok (.aload_n 0, 1) := by decide +kernel
theorem dX8_addFour_18 : decode cX8_addFour 18 = .ok (.getfield 9, 3) := by decide +kernel
theorem dX8_addFour_21 : decode cX8_addFour 21 = .ok (.aload_n 0, 1) := by decide +kernel
theorem dX8_addFour_22 : decode cX8_addFour 22 = .ok (.getfield 15, 3) := by decide +kernel
theorem dX8_addFour_25 : decode cX8_addFour 25 = .ok (.iload_n 1, 1) := by decide +kernel
theorem dX8_addFour_26 : decode cX8_addFour 26 = .ok (.iload_n 2, 1) := by decide +kernel
theorem dX8_addFour_27 : decode cX8_addFour 27 = .ok (.iushr, 1) := by decide +kernel
theorem dX8_addFour_28 : decode cX8_addFour 28 = .ok (.sipush 255, 3) := by decide +kernel
theorem dX8_addFour_31 : decode cX8_addFour 31 = .ok (.iand, 1) := by decide +kernel
theorem dX8_addFour_32 : decode cX8_addFour 32 = .ok (.iastore, 1) := by decide +kernel
theorem dX8_addFour_33 : decode cX8_addFour 33 = .ok (.aload_n 0, 1) := by decide +kernel
theorem dX8_addFour_34 : decode cX8_addFour 34 = .ok (.dup, 1) := by decide +kernel
theorem dX8_addFour_35 : decode cX8_addFour 35 = .ok (.getfield 15, 3) := by decide +kernel
theorem dX8_addFour_38 : decode cX8_addFour 38 = .ok (.iconst 1, 1) := by decide +kernel
theorem dX8_addFour_39 : decode cX8_addFour 39 = .ok (.iadd, 1) := by decide +kernel
theorem dX8_addFour_40 : decode cX8_addFour 40 = .ok (.putfield 15, 3) := by decide +kernel
theorem dX8_addFour_43 : decode cX8_addFour 43 = .ok (.iinc 2 (-8), 3) := by decide +kernel
theorem dX8_addFour_46 : decode cX8_addFour 46 = .ok (.goto (-43), 3) := by decide +kernel
theorem dX8_addFour_49 : decode cX8_addFour 49 = .ok (.return_, 1) := by decide +kernel
noncomputable def tX8_addFour_24 (j2 : qT (Unit × qM)) : qT (Unit × qM) :=
  oInc 2 (-8 : Int32) (j2)
noncomputable def wX8_addFour_24 (k : Int32 → Int32 → qM → Option (Unit × qM)) : qT (Unit × qM) := fun lo st m => match lo, st with
  | [some (.ref 1), some (.int a1), some (.int a2)], [] => k a1 a2 m
  | _, _ => none
noncomputable def wX8_addFour_2 (k : Int32 → Int32 → qM → Option (Unit × qM)) : qT (Unit × qM) := fun lo st m => match lo, st with
  | [some (.ref 1), some (.int a1), some (.int a2)], [] => k a1 a2 m
  | _, _ => none
set_option maxRecDepth 20000 in
theorem sX8_addFour_24 {C : qCx} {w : qWp} (h : qOk C w RX8 cX8_addFour 3 0 155 155) (hm : qMt C none) (hx : qNx C) {j2 : qT (Unit × qM)} (k2 : qSnd C w 3 155 (qQf C w 155 155 jV) qfin 155 3 j2) : qSnd C w 3 155 (qQf C w 155 155 jV) qfin 155 43 (tX8_addFour_24 j2) :=
  cInc (pc := 43) h dX8_addFour_43 rfl (jGo (pc := 46) h dX8_addFour_46 rfl (k2))
set_option maxRecDepth 20000 in
theorem lX8_addFour_24 (k2 : Int32 → Int32 → qM → Option (Unit × qM)) (a1 : Int32) (a2 : Int32) (m : qM) : tX8_addFour_24 (wX8_addFour_2 k2) [some (.ref 1), some (.int a1), some (.int a2)] [] m = fX8_addFour_24 k2 a1 a2 m := rfl
theorem bX8_addFour_24 {C : qCx} {w : qWp} (h : qOk C w RX8 cX8_addFour 3 0 155 155) (hm : qMt C none) (hx : qNx C) {k2 : Int32 → Int32 → qM → Option (Unit × qM)} (h2 : qSnd C w 3 155 (qQf C w 155 155 jV) qfin 155 3 (wX8_addFour_2 k2)) : qSnd C w 3 155 (qQf C w 155 155 jV) qfin 155 43 (wX8_addFour_24 (fX8_addFour_24 k2)) :=
  qSnd_of (fun lo st m x hr0 => by
    unfold wX8_addFour_24 at hr0
    split at hr0
    · exact ⟨_, (qsub_e (qsub_e (qsub_e qsub_nil))), (lX8_addFour_24 _ _ _ _).trans hr0⟩
    · cases hr0) (sX8_addFour_24 h hm hx h2)
noncomputable def tX8_addFour_2 (j24 : qT (Unit × qM)) : qT (Unit × qM) :=
  oLi 2 (oLt (eV) (oLa 0 (oGi 1 1 (oC (.int (400 : Int32)) (oCGe (j24) (oLa 0 (oGf 1 0 2 (oLa 0 (oGi 1 1 (oLi 1 (oLi 2 (o2 (fun x y => (x.toUInt32 >>> (y.toUInt32 &&& Int32.toUInt32 31)).toInt32) (oC (.int (255 : Int32)) (o2 (· &&& ·) (oWi 2 400 (oLa 0 (oDup (oGi 1 1 (oC (.int (1 : Int32)) (o2 (· + ·) (oPi 1 1 (j24))))))))))))))))))))))
set_option maxRecDepth 20000 in
theorem sX8_addFour_2 {C : qCx} {w : qWp} (h : qOk C w RX8 cX8_addFour 3 0 155 155) (hm : qMt C none) (hx : qNx C) {j24 : qT (Unit × qM)} (k24 : qSnd C w 3 155 (qQf C w 155 155 jV) qfin 155 43 j24) : qSnd C w 3 155 (qQf C w 155 155 jV) qfin 155 3 (tX8_addFour_2 j24) :=
  cLi (pc := 3) h dX8_addFour_3 rfl (jLt (pc := 4) h dX8_addFour_4 rfl (zV (pc := 49) h hm (Nat.le_refl _) dX8_addFour_49) (cLa (pc := 7) h dX8_addFour_7 rfl (gGi (pc := 8) h dX8_addFour_8 ff_X8_15_1 (Nat.le_of_ble_eq_true rfl) (Nat.le_of_ble_eq_true rfl) (cS (pc := 11) h dX8_addFour_11 rfl (jCGe (pc := 14) h dX8_addFour_14 rfl (k24) (cLa (pc := 17) h dX8_addFour_17 rfl (gGf (pc := 18) h dX8_addFour_18 ff_X8_9_1 (Nat.le_of_ble_eq_true rfl) (Nat.le_of_ble_eq_true rfl) rfl (cLa (pc := 21) h dX8_addFour_21 rfl (gGi (pc := 22) h dX8_addFour_22 ff_X8_15_1 (Nat.le_of_ble_eq_true rfl) (Nat.le_of_ble_eq_true rfl) (cLi (pc := 25) h dX8_addFour_25 rfl (cLi (pc := 26) h dX8_addFour_26 rfl (aUshr (pc := 27) h dX8_addFour_27 (cS (pc := 28) h dX8_addFour_28 rfl (aAnd (pc := 31) h dX8_addFour_31 (rWi (pc := 32) h dX8_addFour_32 rfl (Nat.le_of_ble_eq_true rfl) (Nat.le_of_ble_eq_true rfl) (cLa (pc := 33) h dX8_addFour_33 rfl (aDup (pc := 34) h dX8_addFour_34 (gGi (pc := 35) h dX8_addFour_35 ff_X8_15_1 (Nat.le_of_ble_eq_true rfl) (Nat.le_of_ble_eq_true rfl) (cC (pc := 38) h dX8_addFour_38 rfl (aAdd (pc := 39) h dX8_addFour_39 (gPi (pc := 40) h dX8_addFour_40 ff_X8_15_1 (Or.inl rfl) (Nat.le_of_ble_eq_true rfl) (Nat.le_of_ble_eq_true rfl) (k24))))))))))))))))))))))
set_option maxRecDepth 20000 in
theorem lX8_addFour_2 (n : Nat) (a1 : Int32) (a2 : Int32) (m : qM) : tX8_addFour_2 (wX8_addFour_24 (fX8_addFour_24 (fX8_addFour_2 n))) [some (.ref 1), some (.int a1), some (.int a2)] [] m = fX8_addFour_2 (n + 1) a1 a2 m := rfl
theorem bX8_addFour_2 {C : qCx} {w : qWp} (h : qOk C w RX8 cX8_addFour 3 0 155 155) (hm : qMt C none) (hx : qNx C) : ∀ n : Nat, qSnd C w 3 155 (qQf C w 155 155 jV) qfin 155 3 (wX8_addFour_2 (fX8_addFour_2 n))
  | 0 => qSnd_of0 (fun lo st m x hr0 => by
    unfold wX8_addFour_2 at hr0
    split at hr0
    · cases hr0
    · cases hr0)
  | n + 1 => by
    have ih := bX8_addFour_2 h hm hx n
    exact qSnd_of (fun lo st m x hr0 => by
    unfold wX8_addFour_2 at hr0
    split at hr0
    · exact ⟨_, (qsub_e (qsub_e (qsub_e qsub_nil))), (lX8_addFour_2 n _ _ _).trans hr0⟩
    · cases hr0) (sX8_addFour_2 h hm hx (bX8_addFour_24 h hm hx ih))
noncomputable def tX8_addFour_0 (j2 : qT (Unit × qM)) : qT (Unit × qM) :=
  oC (.int (24 : Int32)) (oSi 2 (j2))
set_option maxRecDepth 20000 in
theorem sX8_addFour_0 {C : qCx} {w : qWp} (h : qOk C w RX8 cX8_addFour 3 0 155 155) (hm : qMt C none) (hx : qNx C) {j2 : qT (Unit × qM)} (k2 : qSnd C w 3 155 (qQf C w 155 155 jV) qfin 155 3 j2) : qSnd C w 3 155 (qQf C w 155 155 jV) qfin 155 0 (tX8_addFour_0 j2) :=
  cB (pc := 0) h dX8_addFour_0 rfl (cSi (pc := 2) h dX8_addFour_2 rfl (k2))
set_option maxRecDepth 20000 in
theorem lX8_addFour_0 (a1 : Int32) (m : qM) : tX8_addFour_0 (wX8_addFour_2 (fX8_addFour_2 FU)) [some (.ref 1), some (.int a1), none] [] m = fX8_addFour_0 a1 m := rfl
noncomputable def GX8_addFour : qG Unit := fun av m => match av with
  | [.ref 1, .int a1] => fX8_addFour a1 m
  | _ => none
theorem spX8_addFour : qSpV yX8_addFour (.code yX8_addFour cX8_addFour 3 none) 0 qfin 155 155 1 GX8_addFour := by
  intro av m m' hG
  unfold GX8_addFour at hG
  split at hG
  · rename_i a1
    rw [fX8_addFour_d] at hG
    exact ⟨qmeet (J := jV) (r := ((), m')) (av := [.ref 1, .int a1]) (by decide +kernel) (Nat.le_of_ble_eq_true rfl) (fun C w h hm hx hn => sX8_addFour_0 h hm hx (bX8_addFour_2 h hm hx FU)) ((lX8_addFour_0 _ _).trans hG) (Nat.le_of_ble_eq_true rfl), Or.inl ⟨1, _, 8, _, _, rfl, by decide, rfl, qCk_8, rfl⟩⟩
  · cases hG
theorem ml_X8_19 : Jvm.Cond.methodLink RX8 19 yJ9_min_7cf53 ∈ qTw := qm2 (List.mem_of_getElem? (i := 221) (by decide +kernel)) (by decide +kernel)
theorem kd_X8_19 {C : qCx} {w : qWp} {cc : ByteArray} {nL dp n0 n1 pc : Nat} (h : qOk C w RX8 cc nL dp n0 n1) (d : decode cc pc = .ok (.invokestatic 19, 3)) : qCallOk C w nL dp n0 n1 pc 2 0 yJ9_min_7cf53 (.code yJ9_min_7cf53 cJ9_min_7cf53 2 (some .int)) := kindS h d ml_X8_19 im_J9_min_7cf53 in_java_lang_Math co_J9_min_7cf53 yk_J9_min_7cf53 (by decide)
theorem ml_X8_25 : Jvm.Cond.methodLink RX8 25 yJ9_max_7cf53 ∈ qTw := qm2 (List.mem_of_getElem? (i := 224) (by decide +kernel)) (by decide +kernel)
theorem kd_X8_25 {C : qCx} {w : qWp} {cc : ByteArray} {nL dp n0 n1 pc : Nat} (h : qOk C w RX8 cc nL dp n0 n1) (d : decode cc pc = .ok (.invokestatic 25, 3)) : qCallOk C w nL dp n0 n1 pc 2 0 yJ9_max_7cf53 (.code yJ9_max_7cf53 cJ9_max_7cf53 2 (some .int)) := kindS h d ml_X8_25 im_J9_max_7cf53 in_java_lang_Math co_J9_max_7cf53 yk_J9_max_7cf53 (by decide)
theorem dX8_cut_0 : decode cX8_cut 0 = .ok (.aload_n 0, 1) := by decide +kernel
theorem dX8_cut_1 : decode cX8_cut 1 = .ok (.iconst 0, 1) := by decide +kernel
theorem dX8_cut_2 : decode cX8_cut 2 = .ok (.iload_n 1, 1) := by decide +kernel
theorem dX8_cut_3 : decode cX8_cut 3 = .ok (.aload_n 0, 1) := by decide +kernel
theorem dX8_cut_4 : decode cX8_cut 4 = .ok (.getfield 15, 3) := by decide +kernel
theorem dX8_cut_7 : decode cX8_cut 7 = .ok (.invokestatic 19, 3) := by decide +kernel
theorem dX8_cut_10 : decode cX8_cut 10 = .ok (.invokestatic 25, 3) := by decide +kernel
theorem dX8_cut_13 : decode cX8_cut 13 = .ok (.putfield 15, 3) := by decide +kernel
theorem dX8_cut_16 : decode cX8_cut 16 = .ok (.return_, 1) := by decide +kernel
noncomputable def tX8_cut_0 : qT (Unit × qM) :=
  oLa 0 (oC (.int (0 : Int32)) (oLi 1 (oLa 0 (oGi 1 1 (oCi GJ9_min_7cf53 2 (oCi GJ9_max_7cf53 2 (oPi 1 1 (eV))))))))
set_option maxRecDepth 20000 in
theorem sX8_cut_0 {C : qCx} {w : qWp} (h : qOk C w RX8 cX8_cut 2 1 155 155) (hm : qMt C none) (hx : qNx C) : qSnd C w 2 155 (qQf C w 155 155 jV) qfin 155 0 (tX8_cut_0) :=
  cLa (pc := 0) h dX8_cut_0 rfl (cC (pc := 1) h dX8_cut_1 rfl (cLi (pc := 2) h dX8_cut_2 rfl (cLa (pc := 3) h dX8_cut_3 rfl (gGi (pc := 4) h dX8_cut_4 ff_X8_15_1 (Nat.le_of_ble_eq_true rfl) (Nat.le_of_ble_eq_true rfl) (kCi (pc := 7) h (kd_X8_19 h dX8_cut_7) spJ9_min_7cf53 (by decide) (by decide) (by decide) (by decide) (kCi (pc := 10) h (kd_X8_25 h dX8_cut_10) spJ9_max_7cf53 (by decide) (by decide) (by decide) (by decide) (gPi (pc := 13) h dX8_cut_13 ff_X8_15_1 (Or.inl rfl) (Nat.le_of_ble_eq_true rfl) (Nat.le_of_ble_eq_true rfl) (zV (pc := 16) h hm (Nat.le_refl _) dX8_cut_16))))))))
set_option maxRecDepth 20000 in
theorem lX8_cut_0 (a1 : Int32) (m : qM) : tX8_cut_0 [some (.ref 1), some (.int a1)] [] m = fX8_cut_0 a1 m := rfl
noncomputable def GX8_cut : qG Unit := fun av m => match av with
  | [.ref 1, .int a1] => fX8_cut a1 m
  | _ => none
theorem spX8_cut : qSpV yX8_cut (.code yX8_cut cX8_cut 2 none) 1 qfin 155 155 1 GX8_cut := by
  intro av m m' hG
  unfold GX8_cut at hG
  split at hG
  · rename_i a1
    rw [fX8_cut_d] at hG
    exact ⟨qmeet (J := jV) (r := ((), m')) (av := [.ref 1, .int a1]) (by decide +kernel) (Nat.le_of_ble_eq_true rfl) (fun C w h hm hx hn => sX8_cut_0 h hm hx) ((lX8_cut_0 _ _).trans hG) (Nat.le_of_ble_eq_true rfl), Or.inl ⟨1, _, 8, _, _, rfl, by decide, rfl, qCk_8, rfl⟩⟩
  · cases hG
theorem dX11_isMinute_0 : decode cX11_isMinute 0 = .ok (.iload_n 0, 1) := by decide +kernel
theorem dX11_isMinute_1 : decode cX11_isMinute 1 = .ok (.iconst 0, 1) := by decide +kernel
theorem dX11_isMinute_2 : decode cX11_isMinute 2 = .ok (.sipush 799, 3) := by decide +kernel
theorem dX11_isMinute_5 : decode cX11_isMinute 5 = .ok (.invokestatic 103, 3) := by decide +kernel
theorem dX11_isMinute_8 : decode cX11_isMinute 8 = .ok (.ireturn, 1) := by decide +kernel
noncomputable def tX11_isMinute_0 : qT (Int32 × qM) :=
  oLi 0 (oC (.int (0 : Int32)) (oC (.int (799 : Int32)) (oCi GX11_within 3 (eZ))))
set_option maxRecDepth 20000 in
theorem sX11_isMinute_0 {C : qCx} {w : qWp} (h : qOk C w RX11 cX11_isMinute 1 1 155 155) (hm : qMt C (some .boolean)) (hx : qNx C) : qSnd C w 1 155 (qQf C w 155 155 jI) qfin 155 0 (tX11_isMinute_0) :=
  cLi (pc := 0) h dX11_isMinute_0 rfl (cC (pc := 1) h dX11_isMinute_1 rfl (cS (pc := 2) h dX11_isMinute_2 rfl (kCi (pc := 5) h (kd_X11_103 h dX11_isMinute_5) spX11_within (by decide) (by decide) (by decide) (by decide) (zZ (pc := 8) h hm (Nat.le_refl _) dX11_isMinute_8))))
set_option maxRecDepth 20000 in
theorem lX11_isMinute_0 (a0 : Int32) (m : qM) : tX11_isMinute_0 [some (.int a0)] [] m = fX11_isMinute_0 a0 m := rfl
noncomputable def GX11_isMinute : qG Int32 := fun av m => match av with
  | [.int a0] => fX11_isMinute a0 m
  | _ => none
theorem spX11_isMinute : qSpI yX11_isMinute (.code yX11_isMinute cX11_isMinute 1 (some .boolean)) 1 qfin 155 155 0 GX11_isMinute := by
  intro av m x m' hG
  unfold GX11_isMinute at hG
  split at hG
  · rename_i a0
    rw [fX11_isMinute_d] at hG
    exact ⟨qmeet (J := jI) (r := (x, m')) (av := [.int a0]) (by decide +kernel) (Nat.le_of_ble_eq_true rfl) (fun C w h hm hx hn => sX11_isMinute_0 h hm hx) ((lX11_isMinute_0 _ _).trans hG) (Nat.le_of_ble_eq_true rfl), trivial⟩
  · cases hG
theorem im_X11_isMinute : Jvm.Cond.static yX11_isMinute ∈ qTw := qm5 (List.mem_of_getElem? (i := 87) (by decide +kernel)) (by decide +kernel)
theorem co_X11_isMinute : Jvm.Cond.code yX11_isMinute cX11_isMinute 1 (some .boolean) ∈ qTw := qm5 (List.mem_of_getElem? (i := 88) (by decide +kernel)) (by decide +kernel)
theorem yk_X11_isMinute : qYk yX11_isMinute 1 := ⟨⟨by decide +kernel, by decide +kernel⟩, by decide +kernel⟩
theorem ml_X9_31 : Jvm.Cond.methodLinkNest RX9 31 yX11_isMinute "ParentEve" ∈ qTw := qm5 (List.mem_of_getElem? (i := 86) (by decide +kernel)) (by decide +kernel)
theorem kd_X9_31 {C : qCx} {w : qWp} {cc : ByteArray} {nL dp n0 n1 pc : Nat} (h : qOk C w RX9 cc nL dp n0 n1) (d : decode cc pc = .ok (.invokestatic 31, 3)) : qCallOk C w nL dp n0 n1 pc 1 0 yX11_isMinute (.code yX11_isMinute cX11_isMinute 1 (some .boolean)) := kindSN h d ml_X9_31 im_X11_isMinute in_ParentEve co_X11_isMinute yk_X11_isMinute (by decide)
theorem dX9_canBeAt_0 : decode cX9_canBeAt 0 = .ok (.iload_n 1, 1) := by decide +kernel
theorem dX9_canBeAt_1 : decode cX9_canBeAt 1 = .ok (.invokestatic 31, 3) := by decide +kernel
theorem dX9_canBeAt_4 : decode cX9_canBeAt 4 = .ok (.ifCond .eq 21, 3) := by decide +kernel
theorem dX9_canBeAt_7 : decode cX9_canBeAt 7 = .ok (.iload_n 1, 1) := by decide +kernel
theorem dX9_canBeAt_8 : decode cX9_canBeAt 8 = .ok (.aload_n 0, 1) := by decide +kernel
theorem dX9_canBeAt_9 : decode cX9_canBeAt 9 = .ok (.aload_n 0, 1) := by decide +kernel
theorem dX9_canBeAt_10 : decode cX9_canBeAt 10 = .ok (.getfield 27, 3) := by decide +kernel
theorem dX9_canBeAt_13 : decode cX9_canBeAt 13 = .ok (.iconst 1, 1) := by decide +kernel
theorem dX9_canBeAt_14 : decode cX9_canBeAt 14 = .ok (.isub, 1) := by decide +kernel
theorem dX9_canBeAt_15 : decode cX9_canBeAt 15 = .ok (.invokevirtual 35, 3) := by decide +kernel
theorem dX9_canBeAt_18 : decode cX9_canBeAt 18 = .ok (.if_icmp .lt 7, 3) := by decide +kernel
theorem dX9_canBeAt_21 : decode cX9_canBeAt 21 = .ok (.iconst 1, 1) := by decide +kernel
theorem dX9_canBeAt_22 : decode cX9_canBeAt 22 = .ok (.goto 4, 3) := by decide +kernel
theorem dX9_canBeAt_25 : decode cX9_canBeAt 25 = .ok (.iconst 0, 1) := by decide +kernel
theorem dX9_canBeAt_26 : decode cX9_canBeAt 26 = .ok (.ireturn, 1) := by decide +kernel
noncomputable def tX9_canBeAt_14 : qT (Int32 × qM) :=
  eZ
noncomputable def wX9_canBeAt_14 (k : Int32 → qM → Option (Int32 × qM)) : qT (Int32 × qM) := fun lo st m => match lo, st with
  | [_, _], [.int s0] => k s0 m
  | _, _ => none
set_option maxRecDepth 20000 in
theorem sX9_canBeAt_14 {C : qCx} {w : qWp} (h : qOk C w RX9 cX9_canBeAt 2 2 155 155) (hm : qMt C (some .boolean)) (hx : qNx C) : qSnd C w 2 155 (qQf C w 155 155 jI) qfin 155 26 (tX9_canBeAt_14) :=
  zZ (pc := 26) h hm (Nat.le_refl _) dX9_canBeAt_26
set_option maxRecDepth 20000 in
theorem lX9_canBeAt_14 (s0 : Int32) (m : qM) : tX9_canBeAt_14 [none, none] [(.int s0)] m = fX9_canBeAt_14 s0 m := rfl
theorem bX9_canBeAt_14 {C : qCx} {w : qWp} (h : qOk C w RX9 cX9_canBeAt 2 2 155 155) (hm : qMt C (some .boolean)) (hx : qNx C) : qSnd C w 2 155 (qQf C w 155 155 jI) qfin 155 26 (wX9_canBeAt_14 fX9_canBeAt_14) :=
  qSnd_of (fun lo st m x hr0 => by
    unfold wX9_canBeAt_14 at hr0
    split at hr0
    · exact ⟨_, (qsub_n (qsub_n qsub_nil)), (lX9_canBeAt_14 _ _).trans hr0⟩
    · cases hr0) (sX9_canBeAt_14 h hm hx)
noncomputable def tX9_canBeAt_13 (j14 : qT (Int32 × qM)) : qT (Int32 × qM) :=
  oC (.int (0 : Int32)) (j14)
noncomputable def wX9_canBeAt_13 (k : qM → Option (Int32 × qM)) : qT (Int32 × qM) := fun lo st m => match lo, st with
  | [_, _], [] => k m
  | _, _ => none
set_option maxRecDepth 20000 in
theorem sX9_canBeAt_13 {C : qCx} {w : qWp} (h : qOk C w RX9 cX9_canBeAt 2 2 155 155) (hm : qMt C (some .boolean)) (hx : qNx C) {j14 : qT (Int32 × qM)} (k14 : qSnd C w 2 155 (qQf C w 155 155 jI) qfin 155 26 j14) : qSnd C w 2 155 (qQf C w 155 155 jI) qfin 155 25 (tX9_canBeAt_13 j14) :=
  cC (pc := 25) h dX9_canBeAt_25 rfl (k14)
set_option maxRecDepth 20000 in
theorem lX9_canBeAt_13 (m : qM) : tX9_canBeAt_13 (wX9_canBeAt_14 fX9_canBeAt_14) [none, none] [] m = fX9_canBeAt_13 m := rfl
theorem bX9_canBeAt_13 {C : qCx} {w : qWp} (h : qOk C w RX9 cX9_canBeAt 2 2 155 155) (hm : qMt C (some .boolean)) (hx : qNx C) : qSnd C w 2 155 (qQf C w 155 155 jI) qfin 155 25 (wX9_canBeAt_13 fX9_canBeAt_13) :=
  qSnd_of (fun lo st m x hr0 => by
    unfold wX9_canBeAt_13 at hr0
    split at hr0
    · exact ⟨_, (qsub_n (qsub_n qsub_nil)), (lX9_canBeAt_13 _).trans hr0⟩
    · cases hr0) (sX9_canBeAt_13 h hm hx (bX9_canBeAt_14 h hm hx))
noncomputable def tX9_canBeAt_0 (j13 : qT (Int32 × qM)) (j14 : qT (Int32 × qM)) : qT (Int32 × qM) :=
  oLi 1 (oCi GX11_isMinute 1 (oEq (j13) (oLi 1 (oLa 0 (oLa 0 (oGi 74 5 (oC (.int (1 : Int32)) (o2 (· - ·) (oCi GX9_minuteOf 2 (oCLt (j13) (oC (.int (1 : Int32)) (j14))))))))))))
set_option maxRecDepth 20000 in
theorem sX9_canBeAt_0 {C : qCx} {w : qWp} (h : qOk C w RX9 cX9_canBeAt 2 2 155 155) (hm : qMt C (some .boolean)) (hx : qNx C) {j13 : qT (Int32 × qM)} {j14 : qT (Int32 × qM)} (k13 : qSnd C w 2 155 (qQf C w 155 155 jI) qfin 155 25 j13) (k14 : qSnd C w 2 155 (qQf C w 155 155 jI) qfin 155 26 j14) : qSnd C w 2 155 (qQf C w 155 155 jI) qfin 155 0 (tX9_canBeAt_0 j13 j14) :=
  cLi (pc := 0) h dX9_canBeAt_0 rfl (kCi (pc := 1) h (kd_X9_31 h dX9_canBeAt_1) spX11_isMinute (by decide) (by decide) (by decide) (by decide) (jEq (pc := 4) h dX9_canBeAt_4 rfl (k13) (cLi (pc := 7) h dX9_canBeAt_7 rfl (cLa (pc := 8) h dX9_canBeAt_8 rfl (cLa (pc := 9) h dX9_canBeAt_9 rfl (gGi (pc := 10) h dX9_canBeAt_10 ff_X9_27_74 (Nat.le_of_ble_eq_true rfl) (Nat.le_of_ble_eq_true rfl) (cC (pc := 13) h dX9_canBeAt_13 rfl (aSub (pc := 14) h dX9_canBeAt_14 (kCi (pc := 15) h (kd_X9_35 h dX9_canBeAt_15) spX9_minuteOf (by decide) (by decide) (by decide) (by decide) (jCLt (pc := 18) h dX9_canBeAt_18 rfl (k13) (cC (pc := 21) h dX9_canBeAt_21 rfl (jGo (pc := 22) h dX9_canBeAt_22 rfl (k14)))))))))))))
set_option maxRecDepth 20000 in
theorem lX9_canBeAt_0 (a1 : Int32) (m : qM) : tX9_canBeAt_0 (wX9_canBeAt_13 fX9_canBeAt_13) (wX9_canBeAt_14 fX9_canBeAt_14) [some (.ref 74), some (.int a1)] [] m = fX9_canBeAt_0 a1 m := rfl
noncomputable def GX9_canBeAt : qG Int32 := fun av m => match av with
  | [.ref 74, .int a1] => fX9_canBeAt a1 m
  | _ => none
theorem spX9_canBeAt : qSpI yX9_canBeAt (.code yX9_canBeAt cX9_canBeAt 2 (some .boolean)) 2 qfin 155 155 1 GX9_canBeAt := by
  intro av m x m' hG
  unfold GX9_canBeAt at hG
  split at hG
  · rename_i a1
    rw [fX9_canBeAt_d] at hG
    exact ⟨qmeet (J := jI) (r := (x, m')) (av := [.ref 74, .int a1]) (by decide +kernel) (Nat.le_of_ble_eq_true rfl) (fun C w h hm hx hn => sX9_canBeAt_0 h hm hx (bX9_canBeAt_13 h hm hx) (bX9_canBeAt_14 h hm hx)) ((lX9_canBeAt_0 _ _).trans hG) (Nat.le_of_ble_eq_true rfl), Or.inl ⟨74, _, 9, _, _, rfl, by decide, rfl, qCk_9, rfl⟩⟩
  · cases hG
theorem dX9_add_0 : decode cX9_add 0 = .ok (.aload_n 0, 1) := by decide +kernel
theorem dX9_add_1 : decode cX9_add 1 = .ok (.getfield 27, 3) := by decide +kernel
theorem dX9_add_4 : decode cX9_add 4 = .ok (.bipush 80, 2) := by decide +kernel
theorem dX9_add_6 : decode cX9_add 6 = .ok (.if_icmp .lt 6, 3) := by decide +kernel
theorem dX9_add_9 : decode cX9_add 9 = .ok (.bipush (-3), 2) := by decide +kernel
theorem dX9_add_11 : decode cX9_add 11 = .ok (.ireturn, 1) := by decide +kernel
theorem dX9_add_12 : decode cX9_add 12 = .ok (.aload_n 0, 1) := by decide +kernel
theorem dX9_add_13 : decode cX9_add 13 = .ok (.getfield 9, 3) := by decide +kernel
theorem dX9_add_16 : decode cX9_add 16 = .ok (.aload_n 0, 1) := by decide +kernel
theorem dX9_add_17 : decode cX9_add 17 = .ok (.getfield 27, 3) := by decide +kernel
theorem dX9_add_20 : decode cX9_add 20 = .ok (.iload_n 1, 1) := by decide +kernel
theorem dX9_add_21 : decode cX9_add 21 = .ok (.iastore, 1) := by decide +kernel
theorem dX9_add_22 : decode cX9_add 22 = .ok (.aload_n 0, 1) := by decide +kernel
theorem dX9_add_23 : decode cX9_add 23 = .ok (.getfield 15, 3) := by decide +kernel
theorem dX9_add_26 : decode cX9_add 26 = .ok (.aload_n 0, 1) := by decide +kernel
theorem dX9_add_27 : decode cX9_add 27 = .ok (.getfield 27, 3) := by decide +kernel
theorem dX9_add_30 : decode cX9_add 30 = .ok (.iload_n 2, 1) := by decide +kernel
theorem dX9_add_31 : decode cX9_add 31 = .ok (.iastore, 1) := by decide +kernel
theorem dX9_add_32 : decode cX9_add 32 = .ok (.aload_n 0, 1) := by decide +kernel
theorem dX9_add_33 : decode cX9_add 33 = .ok (.getfield 18, 3) := by decide +kernel
theorem dX9_add_36 : decode cX9_add 36 = .ok (.aload_n 0, 1) := by decide +kernel
theorem dX9_add_37 : decode cX9_add 37 = .ok (.getfield 27, 3) := by decide +kernel
theorem dX9_add_40 : decode cX9_add 40 = .ok (.iload_n 3, 1) := by decide +kernel
theorem dX9_add_41 : decode cX9_add 41 = .ok (.iastore, 1) := by decide +kernel
theorem dX9_add_42 : decode cX9_add 42 = .ok (.aload_n 0, 1) := by decide +kernel
theorem dX9_add_43 : decode cX9_add 43 = .ok (.getfield 21, 3) := by decide +kernel
theorem dX9_add_46 : decode cX9_add 46 = .ok (.aload_n 0, 1) := by decide +kernel
theorem dX9_add_47 : decode cX9_add 47 = .ok (.getfield 27, 3) := by decide +kernel
theorem dX9_add_50 : decode cX9_add 50 = .ok (.iload 4, 2) := by decide +kernel
theorem dX9_add_52 : decode cX9_add 52 = .ok (.iastore, 1) := by decide +kernel
theorem dX9_add_53 : decode cX9_add 53 = .ok (.aload_n 0, 1) := by decide +kernel
theorem dX9_add_54 : decode cX9_add 54 = .ok (.getfield 24, 3) := by decide +kernel
theorem dX9_add_57 : decode cX9_add 57 = .ok (.aload_n 0, 1) := by decide +kernel
theorem dX9_add_58 : decode cX9_add 58 = .ok (.getfield 27, 3) := by decide +kernel
theorem dX9_add_61 : decode cX9_add 61 = .ok (.iload 5, 2) := by decide +kernel
theorem dX9_add_63 : decode cX9_add 63 = .ok (.iastore, 1) := by decide +kernel
theorem dX9_add_64 : decode cX9_add 64 = .ok (.aload_n 0, 1) := by decide +kernel
theorem dX9_add_65 : decode cX9_add 65 = .ok (.dup, 1) := by decide +kernel
theorem dX9_add_66 : decode cX9_add 66 = .ok (.getfield 27, 3) := by decide +kernel
theorem dX9_add_69 : decode cX9_add 69 = .ok (.iconst 1, 1) := by decide +kernel
theorem dX9_add_70 : decode cX9_add 70 = .ok (.iadd, 1) := by decide +kernel
theorem dX9_add_71 : decode cX9_add 71 = .ok (.putfield 27, 3) := by decide +kernel
theorem dX9_add_74 : decode cX9_add 74 = .ok (.aload_n 0, 1) := by decide +kernel
theorem dX9_add_75 : decode cX9_add 75 = .ok (.getfield 27, 3) := by decide +kernel
theorem dX9_add_78 : decode cX9_add 78 = .ok (.ireturn, 1) := by decide +kernel
noncomputable def tX9_add_0 : qT (Int32 × qM) :=
  oLa 0 (oGi 74 5 (oC (.int (80 : Int32)) (oCLt (oLa 0 (oGf 74 0 75 (oLa 0 (oGi 74 5 (oLi 1 (oWi 75 80 (oLa 0 (oGf 74 1 76 (oLa 0 (oGi 74 5 (oLi 2 (oWi 76 80 (oLa 0 (oGf 74 2 77 (oLa 0 (oGi 74 5 (oLi 3 (oWi 77 80 (oLa 0 (oGf 74 3 78 (oLa 0 (oGi 74 5 (oLi 4 (oWi 78 80 (oLa 0 (oGf 74 4 79 (oLa 0 (oGi 74 5 (oLi 5 (oWi 79 80 (oLa 0 (oDup (oGi 74 5 (oC (.int (1 : Int32)) (o2 (· + ·) (oPi 74 5 (oLa 0 (oGi 74 5 (eI))))))))))))))))))))))))))))))))))))))) (oC (.int (-3 : Int32)) (eI)))))
set_option maxRecDepth 20000 in
theorem sX9_add_0 {C : qCx} {w : qWp} (h : qOk C w RX9 cX9_add 6 0 155 155) (hm : qMt C (some .int)) (hx : qNx C) : qSnd C w 6 155 (qQf C w 155 155 jI) qfin 155 0 (tX9_add_0) :=
  cLa (pc := 0) h dX9_add_0 rfl (gGi (pc := 1) h dX9_add_1 ff_X9_27_74 (Nat.le_of_ble_eq_true rfl) (Nat.le_of_ble_eq_true rfl) (cB (pc := 4) h dX9_add_4 rfl (jCLt (pc := 6) h dX9_add_6 rfl (cLa (pc := 12) h dX9_add_12 rfl (gGf (pc := 13) h dX9_add_13 ff_X9_9_74 (Nat.le_of_ble_eq_true rfl) (Nat.le_of_ble_eq_true rfl) rfl (cLa (pc := 16) h dX9_add_16 rfl (gGi (pc := 17) h dX9_add_17 ff_X9_27_74 (Nat.le_of_ble_eq_true rfl) (Nat.le_of_ble_eq_true rfl) (cLi (pc := 20) h dX9_add_20 rfl (rWi (pc := 21) h dX9_add_21 rfl (Nat.le_of_ble_eq_true rfl) (Nat.le_of_ble_eq_true rfl) (cLa (pc := 22) h dX9_add_22 rfl (gGf (pc := 23) h dX9_add_23 ff_X9_15_74 (Nat.le_of_ble_eq_true rfl) (Nat.le_of_ble_eq_true rfl) rfl (cLa (pc := 26) h dX9_add_26 rfl (gGi (pc := 27) h dX9_add_27 ff_X9_27_74 (Nat.le_of_ble_eq_true rfl) (Nat.le_of_ble_eq_true rfl) (cLi (pc := 30) h dX9_add_30 rfl (rWi (pc := 31) h dX9_add_31 rfl (Nat.le_of_ble_eq_true rfl) (Nat.le_of_ble_eq_true rfl) (cLa (pc := 32) h dX9_add_32 rfl (gGf (pc := 33) h dX9_add_33 ff_X9_18_74 (Nat.le_of_ble_eq_true rfl) (Nat.le_of_ble_eq_true rfl) rfl (cLa (pc := 36) h dX9_add_36 rfl (gGi (pc := 37) h dX9_add_37 ff_X9_27_74 (Nat.le_of_ble_eq_true rfl) (Nat.le_of_ble_eq_true rfl) (cLi (pc := 40) h dX9_add_40 rfl (rWi (pc := 41) h dX9_add_41 rfl (Nat.le_of_ble_eq_true rfl) (Nat.le_of_ble_eq_true rfl) (cLa (pc := 42) h dX9_add_42 rfl (gGf (pc := 43) h dX9_add_43 ff_X9_21_74 (Nat.le_of_ble_eq_true rfl) (Nat.le_of_ble_eq_true rfl) rfl (cLa (pc := 46) h dX9_add_46 rfl (gGi (pc := 47) h dX9_add_47 ff_X9_27_74 (Nat.le_of_ble_eq_true rfl) (Nat.le_of_ble_eq_true rfl) (cLI (pc := 50) h dX9_add_50 (rWi (pc := 52) h dX9_add_52 rfl (Nat.le_of_ble_eq_true rfl) (Nat.le_of_ble_eq_true rfl) (cLa (pc := 53) h dX9_add_53 rfl (gGf (pc := 54) h dX9_add_54 ff_X9_24_74 (Nat.le_of_ble_eq_true rfl) (Nat.le_of_ble_eq_true rfl) rfl (cLa (pc := 57) h dX9_add_57 rfl (gGi (pc := 58) h dX9_add_58 ff_X9_27_74 (Nat.le_of_ble_eq_true rfl) (Nat.le_of_ble_eq_true rfl) (cLI (pc := 61) h dX9_add_61 (rWi (pc := 63) h dX9_add_63 rfl (Nat.le_of_ble_eq_true rfl) (Nat.le_of_ble_eq_true rfl) (cLa (pc := 64) h dX9_add_64 rfl (aDup (pc := 65) h dX9_add_65 (gGi (pc := 66) h dX9_add_66 ff_X9_27_74 (Nat.le_of_ble_eq_true rfl) (Nat.le_of_ble_eq_true rfl) (cC (pc := 69) h dX9_add_69 rfl (aAdd (pc := 70) h dX9_add_70 (gPi (pc := 71) h dX9_add_71 ff_X9_27_74 (Or.inl rfl) (Nat.le_of_ble_eq_true rfl) (Nat.le_of_ble_eq_true rfl) (cLa (pc := 74) h dX9_add_74 rfl (gGi (pc := 75) h dX9_add_75 ff_X9_27_74 (Nat.le_of_ble_eq_true rfl) (Nat.le_of_ble_eq_true rfl) (zI (pc := 78) h hm (Nat.le_refl _) dX9_add_78))))))))))))))))))))))))))))))))))))))) (cB (pc := 9) h dX9_add_9 rfl (zI (pc := 11) h hm (Nat.le_refl _) dX9_add_11)))))
set_option maxRecDepth 20000 in
theorem lX9_add_0 (a1 : Int32) (a2 : Int32) (a3 : Int32) (a4 : Int32) (a5 : Int32) (m : qM) : tX9_add_0 [some (.ref 74), some (.int a1), some (.int a2), some (.int a3), some (.int a4), some (.int a5)] [] m = fX9_add_0 a1 a2 a3 a4 a5 m := rfl
noncomputable def GX9_add : qG Int32 := fun av m => match av with
  | [.ref 74, .int a1, .int a2, .int a3, .int a4, .int a5] => fX9_add a1 a2 a3 a4 a5 m
  | _ => none
theorem spX9_add : qSpI yX9_add (.code yX9_add cX9_add 6 (some .int)) 0 qfin 155 155 1 GX9_add := by
  intro av m x m' hG
  unfold GX9_add at hG
  split at hG
  · rename_i a1 a2 a3 a4 a5
    rw [fX9_add_d] at hG
    exact ⟨qmeet (J := jI) (r := (x, m')) (av := [.ref 74, .int a1, .int a2, .int a3, .int a4, .int a5]) (by decide +kernel) (Nat.le_of_ble_eq_true rfl) (fun C w h hm hx hn => sX9_add_0 h hm hx) ((lX9_add_0 _ _ _ _ _ _).trans hG) (Nat.le_of_ble_eq_true rfl), Or.inl ⟨74, _, 9, _, _, rfl, by decide, rfl, qCk_9, rfl⟩⟩
  · cases hG
theorem dX9_knownAt_0 : decode cX9_knownAt 0 = .ok (.aload_n 0, 1) := by decide +kernel
theorem dX9_knownAt_1 : decode cX9_knownAt 1 = .ok (.getfield 27, 3) := by decide +kernel
theorem dX9_knownAt_4 : decode cX9_knownAt 4 = .ok (.istore_n 2, 1) := by decide +kernel
theorem dX9_knownAt_5 : decode cX9_knownAt 5 = .ok (.iload_n 2, 1) := by decide +kernel
theorem dX9_knownAt_6 : decode cX9_knownAt 6 = .ok (.ifCond .le 21, 3) := by decide +kernel
theorem dX9_knownAt_9 : decode cX9_knownAt 9 = .ok (.aload_n 0, 1) := by decide +kernel
theorem dX9_knownAt_10 : decode cX9_knownAt 10 = .ok (.getfield 15, 3) := by decide +kernel
theorem dX9_knownAt_13 : decode cX9_knownAt 13 = .ok (.iload_n 2, 1) := by decide +kernel
theorem dX9_knownAt_14 : decode cX9_knownAt 14 = .ok (.iconst 1, 1) := by decide +kernel
theorem dX9_knownAt_15 : decode cX9_knownAt 15 = .ok (.isub, 1) := by decide +kernel
theorem dX9_knownAt_16 : decode cX9_knownAt 16 = .ok (.iaload, 1) := by decide +kernel
theorem dX9_knownAt_17 : decode cX9_knownAt 17 = .ok (.iload_n 1, 1) := by decide +kernel
theorem dX9_knownAt_18 : decode cX9_knownAt 18 = .ok (.if_icmp .le 9, 3) := by decide +kernel
theorem dX9_knownAt_21 : decode cX9_knownAt 21 = .ok (.iinc 2 (-1), 3) := by decide +kernel
theorem dX9_knownAt_24 : decode cX9_knownAt 24 = .ok (.goto (-19), 3) := by decide +kernel
theorem dX9_knownAt_27 : decode cX9_knownAt 27 = .ok (.iload_n 2, 1) := by decide +kernel
theorem dX9_knownAt_28 : decode cX9_knownAt 28 = .ok (.ireturn, 1) := by decide +kernel
noncomputable def tX9_knownAt_3 (j15 : qT (Int32 × qM)) (j3 : qT (Int32 × qM)) : qT (Int32 × qM) :=
  oLi 2 (oLe (j15) (oLa 0 (oGf 74 1 76 (oLi 2 (oC (.int (1 : Int32)) (o2 (· - ·) (oAi 76 80 (oLi 1 (oCLe (j15) (oInc 2 (-1 : Int32) (j3)))))))))))
noncomputable def wX9_knownAt_3 (k : Int32 → Int32 → qM → Option (Int32 × qM)) : qT (Int32 × qM) := fun lo st m => match lo, st with
  | [some (.ref 74), some (.int a1), some (.int a2)], [] => k a1 a2 m
  | _, _ => none
noncomputable def wX9_knownAt_15 (k : Int32 → qM → Option (Int32 × qM)) : qT (Int32 × qM) := fun lo st m => match lo, st with
  | [_, _, some (.int a2)], [] => k a2 m
  | _, _ => none
set_option maxRecDepth 20000 in
theorem sX9_knownAt_3 {C : qCx} {w : qWp} (h : qOk C w RX9 cX9_knownAt 3 0 155 155) (hm : qMt C (some .int)) (hx : qNx C) {j15 : qT (Int32 × qM)} {j3 : qT (Int32 × qM)} (k15 : qSnd C w 3 155 (qQf C w 155 155 jI) qfin 155 27 j15) (k3 : qSnd C w 3 155 (qQf C w 155 155 jI) qfin 155 5 j3) : qSnd C w 3 155 (qQf C w 155 155 jI) qfin 155 5 (tX9_knownAt_3 j15 j3) :=
  cLi (pc := 5) h dX9_knownAt_5 rfl (jLe (pc := 6) h dX9_knownAt_6 rfl (k15) (cLa (pc := 9) h dX9_knownAt_9 rfl (gGf (pc := 10) h dX9_knownAt_10 ff_X9_15_74 (Nat.le_of_ble_eq_true rfl) (Nat.le_of_ble_eq_true rfl) rfl (cLi (pc := 13) h dX9_knownAt_13 rfl (cC (pc := 14) h dX9_knownAt_14 rfl (aSub (pc := 15) h dX9_knownAt_15 (rAi (pc := 16) h dX9_knownAt_16 rfl (Nat.le_of_ble_eq_true rfl) (Nat.le_of_ble_eq_true rfl) (cLi (pc := 17) h dX9_knownAt_17 rfl (jCLe (pc := 18) h dX9_knownAt_18 rfl (k15) (cInc (pc := 21) h dX9_knownAt_21 rfl (jGo (pc := 24) h dX9_knownAt_24 rfl (k3))))))))))))
set_option maxRecDepth 20000 in
theorem lX9_knownAt_3 (k15 : Int32 → qM → Option (Int32 × qM)) (n : Nat) (a1 : Int32) (a2 : Int32) (m : qM) : tX9_knownAt_3 (wX9_knownAt_15 k15) (wX9_knownAt_3 ((fX9_knownAt_3 k15 n))) [some (.ref 74), some (.int a1), some (.int a2)] [] m = fX9_knownAt_3 k15 (n + 1) a1 a2 m := rfl
theorem bX9_knownAt_3 {C : qCx} {w : qWp} (h : qOk C w RX9 cX9_knownAt 3 0 155 155) (hm : qMt C (some .int)) (hx : qNx C) {k15 : Int32 → qM → Option (Int32 × qM)} (h15 : qSnd C w 3 155 (qQf C w 155 155 jI) qfin 155 27 (wX9_knownAt_15 k15)) : ∀ n : Nat, qSnd C w 3 155 (qQf C w 155 155 jI) qfin 155 5 (wX9_knownAt_3 (fX9_knownAt_3 k15 n))
  | 0 => qSnd_of0 (fun lo st m x hr0 => by
    unfold wX9_knownAt_3 at hr0
    split at hr0
    · cases hr0
    · cases hr0)
  | n + 1 => by
    have ih := bX9_knownAt_3 h hm hx h15 n
    exact qSnd_of (fun lo st m x hr0 => by
    unfold wX9_knownAt_3 at hr0
    split at hr0
    · exact ⟨_, (qsub_e (qsub_e (qsub_e qsub_nil))), (lX9_knownAt_3 _ n _ _ _).trans hr0⟩
    · cases hr0) (sX9_knownAt_3 h hm hx h15 ih)
noncomputable def tX9_knownAt_15 : qT (Int32 × qM) :=
  oLi 2 (eI)
set_option maxRecDepth 20000 in
theorem sX9_knownAt_15 {C : qCx} {w : qWp} (h : qOk C w RX9 cX9_knownAt 3 0 155 155) (hm : qMt C (some .int)) (hx : qNx C) : qSnd C w 3 155 (qQf C w 155 155 jI) qfin 155 27 (tX9_knownAt_15) :=
  cLi (pc := 27) h dX9_knownAt_27 rfl (zI (pc := 28) h hm (Nat.le_refl _) dX9_knownAt_28)
set_option maxRecDepth 20000 in
theorem lX9_knownAt_15 (a2 : Int32) (m : qM) : tX9_knownAt_15 [none, none, some (.int a2)] [] m = fX9_knownAt_15 a2 m := rfl
theorem bX9_knownAt_15 {C : qCx} {w : qWp} (h : qOk C w RX9 cX9_knownAt 3 0 155 155) (hm : qMt C (some .int)) (hx : qNx C) : qSnd C w 3 155 (qQf C w 155 155 jI) qfin 155 27 (wX9_knownAt_15 fX9_knownAt_15) :=
  qSnd_of (fun lo st m x hr0 => by
    unfold wX9_knownAt_15 at hr0
    split at hr0
    · exact ⟨_, (qsub_n (qsub_n (qsub_e qsub_nil))), (lX9_knownAt_15 _ _).trans hr0⟩
    · cases hr0) (sX9_knownAt_15 h hm hx)
noncomputable def tX9_knownAt_0 (j3 : qT (Int32 × qM)) : qT (Int32 × qM) :=
  oLa 0 (oGi 74 5 (oSi 2 (j3)))
set_option maxRecDepth 20000 in
theorem sX9_knownAt_0 {C : qCx} {w : qWp} (h : qOk C w RX9 cX9_knownAt 3 0 155 155) (hm : qMt C (some .int)) (hx : qNx C) {j3 : qT (Int32 × qM)} (k3 : qSnd C w 3 155 (qQf C w 155 155 jI) qfin 155 5 j3) : qSnd C w 3 155 (qQf C w 155 155 jI) qfin 155 0 (tX9_knownAt_0 j3) :=
  cLa (pc := 0) h dX9_knownAt_0 rfl (gGi (pc := 1) h dX9_knownAt_1 ff_X9_27_74 (Nat.le_of_ble_eq_true rfl) (Nat.le_of_ble_eq_true rfl) (cSi (pc := 4) h dX9_knownAt_4 rfl (k3)))
set_option maxRecDepth 20000 in
theorem lX9_knownAt_0 (a1 : Int32) (m : qM) : tX9_knownAt_0 (wX9_knownAt_3 (fX9_knownAt_3 fX9_knownAt_15 FU)) [some (.ref 74), some (.int a1), none] [] m = fX9_knownAt_0 a1 m := rfl
noncomputable def GX9_knownAt : qG Int32 := fun av m => match av with
  | [.ref 74, .int a1] => fX9_knownAt a1 m
  | _ => none
theorem spX9_knownAt : qSpI yX9_knownAt (.code yX9_knownAt cX9_knownAt 3 (some .int)) 0 qfin 155 155 1 GX9_knownAt := by
  intro av m x m' hG
  unfold GX9_knownAt at hG
  split at hG
  · rename_i a1
    rw [fX9_knownAt_d] at hG
    exact ⟨qmeet (J := jI) (r := (x, m')) (av := [.ref 74, .int a1]) (by decide +kernel) (Nat.le_of_ble_eq_true rfl) (fun C w h hm hx hn => sX9_knownAt_0 h hm hx (bX9_knownAt_3 h hm hx (bX9_knownAt_15 h hm hx) FU)) ((lX9_knownAt_0 _ _).trans hG) (Nat.le_of_ble_eq_true rfl), Or.inl ⟨74, _, 9, _, _, rfl, by decide, rfl, qCk_9, rfl⟩⟩
  · cases hG
theorem dX10_draft_0 : decode cX10_draft 0 = .ok (.aload_n 0, 1) := by decide +kernel
theorem dX10_draft_1 : decode cX10_draft 1 = .ok (.getfield 18, 3) := by decide +kernel
theorem dX10_draft_4 : decode cX10_draft 4 = .ok (.areturn, 1) := by decide +kernel
noncomputable def tX10_draft_0 : qT (Option Nat × qM) :=
  oLa 0 (oGr 7 1 (eR))
set_option maxRecDepth 20000 in
theorem sX10_draft_0 {C : qCx} {w : qWp} (h : qOk C w RX10 cX10_draft 1 0 155 155) (hm : qMt C (some (.object "ParentEve$Policy"))) (hx : qNx C) : qSnd C w 1 155 (qQf C w 155 155 jR) qfin 155 0 (tX10_draft_0) :=
  cLa (pc := 0) h dX10_draft_0 rfl (gGr (pc := 1) h dX10_draft_1 ff_X10_18_7 (Nat.le_of_ble_eq_true rfl) (Nat.le_of_ble_eq_true rfl) rfl (zR (pc := 4) h hm (Nat.le_refl _) dX10_draft_4))
set_option maxRecDepth 20000 in
theorem lX10_draft_0 (m : qM) : tX10_draft_0 [some (.ref 7)] [] m = fX10_draft_0 m := rfl
noncomputable def GX10_draft : qG (Option Nat) := fun av m => match av with
  | [.ref 7] => fX10_draft m
  | _ => none
theorem spX10_draft : qSpR yX10_draft (.code yX10_draft cX10_draft 1 (some (.object "ParentEve$Policy"))) 0 qfin 155 155 1 GX10_draft := by
  intro av m x m' hG
  unfold GX10_draft at hG
  split at hG
  · rw [fX10_draft_d] at hG
    exact ⟨qmeet (J := jR) (r := (x, m')) (av := [.ref 7]) (by decide +kernel) (Nat.le_of_ble_eq_true rfl) (fun C w h hm hx hn => sX10_draft_0 h hm hx) ((lX10_draft_0 _).trans hG) (Nat.le_of_ble_eq_true rfl), Or.inl ⟨7, _, 10, _, _, rfl, by decide, rfl, qCk_10, rfl⟩⟩
  · cases hG
theorem dX10_keepDraft_0 : decode cX10_keepDraft 0 = .ok (.iload_n 2, 1) := by decide +kernel
theorem dX10_keepDraft_1 : decode cX10_keepDraft 1 = .ok (.ifCond .eq 32, 3) := by decide +kernel
theorem dX10_keepDraft_4 : decode cX10_keepDraft 4 = .ok (.iload_n 1, 1) := by decide +kernel
theorem dX10_keepDraft_5 : decode cX10_keepDraft 5 = .ok (.invokestatic 32, 3) := by decide +kernel
theorem dX10_keepDraft_8 : decode cX10_keepDraft 8 = .ok (.ifCond .eq 25, 3) := by decide +kernel
theorem dX10_keepDraft_11 : decode cX10_keepDraft 11 = .ok (.aload_n 0, 1) := by decide +kernel
theorem dX10_keepDraft_12 : decode cX10_keepDraft 12 = .ok (.getfield 11, 3) := by decide +kernel
theorem dX10_keepDraft_15 : decode cX10_keepDraft 15 = .ok (.iload_n 1, 1) := by decide +kernel
theorem dX10_keepDraft_16 : decode cX10_keepDraft 16 = .ok (.aaload, 1) := by decide +kernel
theorem dX10_keepDraft_17 : decode cX10_keepDraft 17 = .ok (.astore_n 3, 1) := by decide +kernel
theorem dX10_keepDraft_18 : decode cX10_keepDraft 18 = .ok (.aload_n 0, 1) := by decide +kernel
theorem dX10_keepDraft_19 : decode cX10_keepDraft 19 = .ok (.getfield 11, 3) := by decide +kernel
theorem dX10_keepDraft_22 : decode cX10_keepDraft 22 = .ok (.iload_n 1, 1) := by decide +kernel
theorem dX10_keepDraft_23 : decode cX10_keepDraft 23 = .ok (.aload_n 0, 1) := by decide +kernel
theorem dX10_keepDraft_24 : decode cX10_keepDraft 24 = .ok (.getfield 18, 3) := by decide +kernel
theorem dX10_keepDraft_27 : decode cX10_keepDraft 27 = .ok (.aastore, 1) := by decide +kernel
theorem dX10_keepDraft_28 : decode cX10_keepDraft 28 = .ok (.aload_n 0, 1) := by decide +kernel
theorem dX10_keepDraft_29 : decode cX10_keepDraft 29 = .ok (.aload_n 3, 1) := by decide +kernel
theorem dX10_keepDraft_30 : decode cX10_keepDraft 30 = .ok (.putfield 18, 3) := by decide +kernel
theorem dX10_keepDraft_33 : decode cX10_keepDraft 33 = .ok (.return_, 1) := by decide +kernel
noncomputable def tX10_keepDraft_19 : qT (Unit × qM) :=
  eV
noncomputable def wX10_keepDraft_19 (k : qM → Option (Unit × qM)) : qT (Unit × qM) := fun lo st m => match lo, st with
  | [_, _, _, _], [] => k m
  | _, _ => none
set_option maxRecDepth 20000 in
theorem sX10_keepDraft_19 {C : qCx} {w : qWp} (h : qOk C w RX10 cX10_keepDraft 4 2 155 155) (hm : qMt C none) (hx : qNx C) : qSnd C w 4 155 (qQf C w 155 155 jV) qfin 155 33 (tX10_keepDraft_19) :=
  zV (pc := 33) h hm (Nat.le_refl _) dX10_keepDraft_33
set_option maxRecDepth 20000 in
theorem lX10_keepDraft_19 (m : qM) : tX10_keepDraft_19 [none, none, none, none] [] m = fX10_keepDraft_19 m := rfl
theorem bX10_keepDraft_19 {C : qCx} {w : qWp} (h : qOk C w RX10 cX10_keepDraft 4 2 155 155) (hm : qMt C none) (hx : qNx C) : qSnd C w 4 155 (qQf C w 155 155 jV) qfin 155 33 (wX10_keepDraft_19 fX10_keepDraft_19) :=
  qSnd_of (fun lo st m x hr0 => by
    unfold wX10_keepDraft_19 at hr0
    split at hr0
    · exact ⟨_, (qsub_n (qsub_n (qsub_n (qsub_n qsub_nil)))), (lX10_keepDraft_19 _).trans hr0⟩
    · cases hr0) (sX10_keepDraft_19 h hm hx)
noncomputable def tX10_keepDraft_0 (j19 : qT (Unit × qM)) : qT (Unit × qM) :=
  oLi 2 (oEq (j19) (oLi 1 (oCi GX11_isPolicy 1 (oEq (j19) (oLa 0 (oGf 7 0 8 (oLi 1 (oAr 8 4 qpol (oSa 3 (oLa 0 (oGf 7 0 8 (oLi 1 (oLa 0 (oGr 7 1 (oWr 8 4 qpol (oLa 0 (oLa 3 (oPr 7 1 (j19)))))))))))))))))))
set_option maxRecDepth 20000 in
theorem sX10_keepDraft_0 {C : qCx} {w : qWp} (h : qOk C w RX10 cX10_keepDraft 4 2 155 155) (hm : qMt C none) (hx : qNx C) {j19 : qT (Unit × qM)} (k19 : qSnd C w 4 155 (qQf C w 155 155 jV) qfin 155 33 j19) : qSnd C w 4 155 (qQf C w 155 155 jV) qfin 155 0 (tX10_keepDraft_0 j19) :=
  cLi (pc := 0) h dX10_keepDraft_0 rfl (jEq (pc := 1) h dX10_keepDraft_1 rfl (k19) (cLi (pc := 4) h dX10_keepDraft_4 rfl (kCi (pc := 5) h (kd_X10_32 h dX10_keepDraft_5) spX11_isPolicy (by decide) (by decide) (by decide) (by decide) (jEq (pc := 8) h dX10_keepDraft_8 rfl (k19) (cLa (pc := 11) h dX10_keepDraft_11 rfl (gGf (pc := 12) h dX10_keepDraft_12 ff_X10_11_7 (Nat.le_of_ble_eq_true rfl) (Nat.le_of_ble_eq_true rfl) rfl (cLi (pc := 15) h dX10_keepDraft_15 rfl (rAr qpol_1000 (pc := 16) h dX10_keepDraft_16 rfl (Nat.le_of_ble_eq_true rfl) (Nat.le_of_ble_eq_true rfl) (cSa (pc := 17) h dX10_keepDraft_17 rfl (cLa (pc := 18) h dX10_keepDraft_18 rfl (gGf (pc := 19) h dX10_keepDraft_19 ff_X10_11_7 (Nat.le_of_ble_eq_true rfl) (Nat.le_of_ble_eq_true rfl) rfl (cLi (pc := 22) h dX10_keepDraft_22 rfl (cLa (pc := 23) h dX10_keepDraft_23 rfl (gGr (pc := 24) h dX10_keepDraft_24 ff_X10_18_7 (Nat.le_of_ble_eq_true rfl) (Nat.le_of_ble_eq_true rfl) rfl (rWr qpol_155 (pc := 27) h dX10_keepDraft_27 rfl (Nat.le_of_ble_eq_true rfl) (Nat.le_of_ble_eq_true rfl) (fun _ => rfl) (cLa (pc := 28) h dX10_keepDraft_28 rfl (cLa (pc := 29) h dX10_keepDraft_29 rfl (gPr (pc := 30) h dX10_keepDraft_30 ff_X10_18_7 (Or.inl rfl) (Nat.le_of_ble_eq_true rfl) (Nat.le_of_ble_eq_true rfl) rfl (k19)))))))))))))))))))
set_option maxRecDepth 20000 in
theorem lX10_keepDraft_0 (a1 : Int32) (a2 : Int32) (m : qM) : tX10_keepDraft_0 (wX10_keepDraft_19 fX10_keepDraft_19) [some (.ref 7), some (.int a1), some (.int a2), none] [] m = fX10_keepDraft_0 a1 a2 m := rfl
noncomputable def GX10_keepDraft : qG Unit := fun av m => match av with
  | [.ref 7, .int a1, .int a2] => fX10_keepDraft a1 a2 m
  | _ => none
theorem spX10_keepDraft : qSpV yX10_keepDraft (.code yX10_keepDraft cX10_keepDraft 4 none) 2 qfin 155 155 1 GX10_keepDraft := by
  intro av m m' hG
  unfold GX10_keepDraft at hG
  split at hG
  · rename_i a1 a2
    rw [fX10_keepDraft_d] at hG
    exact ⟨qmeet (J := jV) (r := ((), m')) (av := [.ref 7, .int a1, .int a2]) (by decide +kernel) (Nat.le_of_ble_eq_true rfl) (fun C w h hm hx hn => sX10_keepDraft_0 h hm hx (bX10_keepDraft_19 h hm hx)) ((lX10_keepDraft_0 _ _ _).trans hG) (Nat.le_of_ble_eq_true rfl), Or.inl ⟨7, _, 10, _, _, rfl, by decide, rfl, qCk_10, rfl⟩⟩
  · cases hG
theorem im_X5_lines : Jvm.Cond.instanceMethod yX5_lines ∈ qTw := qm6 (List.mem_of_getElem? (i := 150) (by decide +kernel)) (by decide +kernel)
theorem se_X5_lines : Jvm.Cond.selects yX5_lines.cls yX5_lines yX5_lines ∈ qTw := qm6 (List.mem_of_getElem? (i := 151) (by decide +kernel)) (by decide +kernel)
theorem co_X5_lines : Jvm.Cond.code yX5_lines cX5_lines 1 (some .int) ∈ qTw := qm6 (List.mem_of_getElem? (i := 152) (by decide +kernel)) (by decide +kernel)
theorem yk_X5_lines : qYk yX5_lines 0 := ⟨⟨by decide +kernel, by decide +kernel⟩, by decide +kernel⟩
theorem ml_X10_36 : Jvm.Cond.methodLink RX10 36 yX5_lines ∈ qTw := qm6 (List.mem_of_getElem? (i := 149) (by decide +kernel)) (by decide +kernel)
theorem kd_X10_36 {C : qCx} {w : qWp} {cc : ByteArray} {nL dp n0 n1 pc : Nat} (h : qOk C w RX10 cc nL dp n0 n1) (d : decode cc pc = .ok (.invokevirtual 36, 3)) : qCallOk C w nL dp n0 n1 pc 1 1 yX5_lines (.code yX5_lines cX5_lines 1 (some .int)) := kindV h d ml_X10_36 im_X5_lines se_X5_lines in_ParentEve_Policy co_X5_lines yk_X5_lines (by decide)
theorem dX10_linesOf_0 : decode cX10_linesOf 0 = .ok (.iload_n 1, 1) := by decide +kernel
theorem dX10_linesOf_1 : decode cX10_linesOf 1 = .ok (.invokestatic 32, 3) := by decide +kernel
theorem dX10_linesOf_4 : decode cX10_linesOf 4 = .ok (.ifCond .eq 15, 3) := by decide +kernel
theorem dX10_linesOf_7 : decode cX10_linesOf 7 = .ok (.aload_n 0, 1) := by decide +kernel
theorem dX10_linesOf_8 : decode cX10_linesOf 8 = .ok (.getfield 11, 3) := by decide +kernel
theorem dX10_linesOf_11 : decode cX10_linesOf 11 = .ok (.iload_n 1, 1) := by decide +kernel
theorem dX10_linesOf_12 : decode cX10_linesOf 12 = .ok (.aaload, 1) := by decide +kernel
theorem dX10_linesOf_13 : decode cX10_linesOf 13 = .ok (.invokevirtual 36, 3) := by decide +kernel
theorem dX10_linesOf_16 : decode cX10_linesOf 16 = .ok (.goto 4, 3) := by decide +kernel
theorem dX10_linesOf_19 : decode cX10_linesOf 19 = .ok (.iconst 0, 1) := by decide +kernel
theorem dX10_linesOf_20 : decode cX10_linesOf 20 = .ok (.ireturn, 1) := by decide +kernel
noncomputable def tX10_linesOf_10 : qT (Int32 × qM) :=
  eI
noncomputable def wX10_linesOf_10 (k : Int32 → qM → Option (Int32 × qM)) : qT (Int32 × qM) := fun lo st m => match lo, st with
  | [_, _], [.int s0] => k s0 m
  | _, _ => none
set_option maxRecDepth 20000 in
theorem sX10_linesOf_10 {C : qCx} {w : qWp} (h : qOk C w RX10 cX10_linesOf 2 2 155 155) (hm : qMt C (some .int)) (hx : qNx C) : qSnd C w 2 155 (qQf C w 155 155 jI) qfin 155 20 (tX10_linesOf_10) :=
  zI (pc := 20) h hm (Nat.le_refl _) dX10_linesOf_20
set_option maxRecDepth 20000 in
theorem lX10_linesOf_10 (s0 : Int32) (m : qM) : tX10_linesOf_10 [none, none] [(.int s0)] m = fX10_linesOf_10 s0 m := rfl
theorem bX10_linesOf_10 {C : qCx} {w : qWp} (h : qOk C w RX10 cX10_linesOf 2 2 155 155) (hm : qMt C (some .int)) (hx : qNx C) : qSnd C w 2 155 (qQf C w 155 155 jI) qfin 155 20 (wX10_linesOf_10 fX10_linesOf_10) :=
  qSnd_of (fun lo st m x hr0 => by
    unfold wX10_linesOf_10 at hr0
    split at hr0
    · exact ⟨_, (qsub_n (qsub_n qsub_nil)), (lX10_linesOf_10 _ _).trans hr0⟩
    · cases hr0) (sX10_linesOf_10 h hm hx)
noncomputable def tX10_linesOf_0 (j10 : qT (Int32 × qM)) : qT (Int32 × qM) :=
  oLi 1 (oCi GX11_isPolicy 1 (oEq (oC (.int (0 : Int32)) (j10)) (oLa 0 (oGf 7 0 8 (oLi 1 (oAr 8 4 qpol (oCi GX5_lines 1 (j10))))))))
set_option maxRecDepth 20000 in
theorem sX10_linesOf_0 {C : qCx} {w : qWp} (h : qOk C w RX10 cX10_linesOf 2 2 155 155) (hm : qMt C (some .int)) (hx : qNx C) {j10 : qT (Int32 × qM)} (k10 : qSnd C w 2 155 (qQf C w 155 155 jI) qfin 155 20 j10) : qSnd C w 2 155 (qQf C w 155 155 jI) qfin 155 0 (tX10_linesOf_0 j10) :=
  cLi (pc := 0) h dX10_linesOf_0 rfl (kCi (pc := 1) h (kd_X10_32 h dX10_linesOf_1) spX11_isPolicy (by decide) (by decide) (by decide) (by decide) (jEq (pc := 4) h dX10_linesOf_4 rfl (cC (pc := 19) h dX10_linesOf_19 rfl (k10)) (cLa (pc := 7) h dX10_linesOf_7 rfl (gGf (pc := 8) h dX10_linesOf_8 ff_X10_11_7 (Nat.le_of_ble_eq_true rfl) (Nat.le_of_ble_eq_true rfl) rfl (cLi (pc := 11) h dX10_linesOf_11 rfl (rAr qpol_1000 (pc := 12) h dX10_linesOf_12 rfl (Nat.le_of_ble_eq_true rfl) (Nat.le_of_ble_eq_true rfl) (kCi (pc := 13) h (kd_X10_36 h dX10_linesOf_13) spX5_lines (by decide) (by decide) (by decide) (by decide) (jGo (pc := 16) h dX10_linesOf_16 rfl (k10)))))))))
set_option maxRecDepth 20000 in
theorem lX10_linesOf_0 (a1 : Int32) (m : qM) : tX10_linesOf_0 (wX10_linesOf_10 fX10_linesOf_10) [some (.ref 7), some (.int a1)] [] m = fX10_linesOf_0 a1 m := rfl
noncomputable def GX10_linesOf : qG Int32 := fun av m => match av with
  | [.ref 7, .int a1] => fX10_linesOf a1 m
  | _ => none
theorem spX10_linesOf : qSpI yX10_linesOf (.code yX10_linesOf cX10_linesOf 2 (some .int)) 2 qfin 155 155 1 GX10_linesOf := by
  intro av m x m' hG
  unfold GX10_linesOf at hG
  split at hG
  · rename_i a1
    rw [fX10_linesOf_d] at hG
    exact ⟨qmeet (J := jI) (r := (x, m')) (av := [.ref 7, .int a1]) (by decide +kernel) (Nat.le_of_ble_eq_true rfl) (fun C w h hm hx hn => sX10_linesOf_0 h hm hx (bX10_linesOf_10 h hm hx)) ((lX10_linesOf_0 _ _).trans hG) (Nat.le_of_ble_eq_true rfl), Or.inl ⟨7, _, 10, _, _, rfl, by decide, rfl, qCk_10, rfl⟩⟩
  · cases hG
theorem dX10_setFollowed_0 : decode cX10_setFollowed 0 = .ok (.aload_n 0, 1) := by decide +kernel
theorem dX10_setFollowed_1 : decode cX10_setFollowed 1 = .ok (.getfield 22, 3) := by decide +kernel
theorem dX10_setFollowed_4 : decode cX10_setFollowed 4 = .ok (.iload_n 1, 1) := by decide +kernel
theorem dX10_setFollowed_5 : decode cX10_setFollowed 5 = .ok (.iaload, 1) := by decide +kernel
theorem dX10_setFollowed_6 : decode cX10_setFollowed 6 = .ok (.istore_n 3, 1) := by decide +kernel
theorem dX10_setFollowed_7 : decode cX10_setFollowed 7 = .ok (.aload_n 0, 1) := by decide +kernel
theorem dX10_setFollowed_8 : decode cX10_setFollowed 8 = .ok (.getfield 22, 3) := by decide +kernel
theorem dX10_setFollowed_11 : decode cX10_setFollowed 11 = .ok (.iload_n 1, 1) := by decide +kernel
theorem dX10_setFollowed_12 : decode cX10_setFollowed 12 = .ok (.iload_n 2, 1) := by decide +kernel
theorem dX10_setFollowed_13 : decode cX10_setFollowed 13 = .ok (.iastore, 1) := by decide +kernel
theorem dX10_setFollowed_14 : decode cX10_setFollowed 14 = .ok (.iload_n 3, 1) := by decide +kernel
theorem dX10_setFollowed_15 : decode cX10_setFollowed 15 = .ok (.ireturn, 1) := by decide +kernel
noncomputable def tX10_setFollowed_0 : qT (Int32 × qM) :=
  oLa 0 (oGf 7 2 16 (oLi 1 (oAi 16 10 (oSi 3 (oLa 0 (oGf 7 2 16 (oLi 1 (oLi 2 (oWi 16 10 (oLi 3 (eI)))))))))))
set_option maxRecDepth 20000 in
theorem sX10_setFollowed_0 {C : qCx} {w : qWp} (h : qOk C w RX10 cX10_setFollowed 4 0 155 155) (hm : qMt C (some .int)) (hx : qNx C) : qSnd C w 4 155 (qQf C w 155 155 jI) qfin 155 0 (tX10_setFollowed_0) :=
  cLa (pc := 0) h dX10_setFollowed_0 rfl (gGf (pc := 1) h dX10_setFollowed_1 ff_X10_22_7 (Nat.le_of_ble_eq_true rfl) (Nat.le_of_ble_eq_true rfl) rfl (cLi (pc := 4) h dX10_setFollowed_4 rfl (rAi (pc := 5) h dX10_setFollowed_5 rfl (Nat.le_of_ble_eq_true rfl) (Nat.le_of_ble_eq_true rfl) (cSi (pc := 6) h dX10_setFollowed_6 rfl (cLa (pc := 7) h dX10_setFollowed_7 rfl (gGf (pc := 8) h dX10_setFollowed_8 ff_X10_22_7 (Nat.le_of_ble_eq_true rfl) (Nat.le_of_ble_eq_true rfl) rfl (cLi (pc := 11) h dX10_setFollowed_11 rfl (cLi (pc := 12) h dX10_setFollowed_12 rfl (rWi (pc := 13) h dX10_setFollowed_13 rfl (Nat.le_of_ble_eq_true rfl) (Nat.le_of_ble_eq_true rfl) (cLi (pc := 14) h dX10_setFollowed_14 rfl (zI (pc := 15) h hm (Nat.le_refl _) dX10_setFollowed_15)))))))))))
set_option maxRecDepth 20000 in
theorem lX10_setFollowed_0 (a1 : Int32) (a2 : Int32) (m : qM) : tX10_setFollowed_0 [some (.ref 7), some (.int a1), some (.int a2), none] [] m = fX10_setFollowed_0 a1 a2 m := rfl
noncomputable def GX10_setFollowed : qG Int32 := fun av m => match av with
  | [.ref 7, .int a1, .int a2] => fX10_setFollowed a1 a2 m
  | _ => none
theorem spX10_setFollowed : qSpI yX10_setFollowed (.code yX10_setFollowed cX10_setFollowed 4 (some .int)) 0 qfin 155 155 1 GX10_setFollowed := by
  intro av m x m' hG
  unfold GX10_setFollowed at hG
  split at hG
  · rename_i a1 a2
    rw [fX10_setFollowed_d] at hG
    exact ⟨qmeet (J := jI) (r := (x, m')) (av := [.ref 7, .int a1, .int a2]) (by decide +kernel) (Nat.le_of_ble_eq_true rfl) (fun C w h hm hx hn => sX10_setFollowed_0 h hm hx) ((lX10_setFollowed_0 _ _ _).trans hG) (Nat.le_of_ble_eq_true rfl), Or.inl ⟨7, _, 10, _, _, rfl, by decide, rfl, qCk_10, rfl⟩⟩
  · cases hG
theorem dX10_habitsOf_0 : decode cX10_habitsOf 0 = .ok (.aload_n 0, 1) := by decide +kernel
theorem dX10_habitsOf_1 : decode cX10_habitsOf 1 = .ok (.getfield 29, 3) := by decide +kernel
theorem dX10_habitsOf_4 : decode cX10_habitsOf 4 = .ok (.iload_n 1, 1) := by decide +kernel
theorem dX10_habitsOf_5 : decode cX10_habitsOf 5 = .ok (.iaload, 1) := by decide +kernel
theorem dX10_habitsOf_6 : decode cX10_habitsOf 6 = .ok (.ireturn, 1) := by decide +kernel
noncomputable def tX10_habitsOf_0 : qT (Int32 × qM) :=
  oLa 0 (oGf 7 4 18 (oLi 1 (oAi 18 10 (eI))))
set_option maxRecDepth 20000 in
theorem sX10_habitsOf_0 {C : qCx} {w : qWp} (h : qOk C w RX10 cX10_habitsOf 2 0 155 155) (hm : qMt C (some .int)) (hx : qNx C) : qSnd C w 2 155 (qQf C w 155 155 jI) qfin 155 0 (tX10_habitsOf_0) :=
  cLa (pc := 0) h dX10_habitsOf_0 rfl (gGf (pc := 1) h dX10_habitsOf_1 ff_X10_29_7 (Nat.le_of_ble_eq_true rfl) (Nat.le_of_ble_eq_true rfl) rfl (cLi (pc := 4) h dX10_habitsOf_4 rfl (rAi (pc := 5) h dX10_habitsOf_5 rfl (Nat.le_of_ble_eq_true rfl) (Nat.le_of_ble_eq_true rfl) (zI (pc := 6) h hm (Nat.le_refl _) dX10_habitsOf_6))))
set_option maxRecDepth 20000 in
theorem lX10_habitsOf_0 (a1 : Int32) (m : qM) : tX10_habitsOf_0 [some (.ref 7), some (.int a1)] [] m = fX10_habitsOf_0 a1 m := rfl
noncomputable def GX10_habitsOf : qG Int32 := fun av m => match av with
  | [.ref 7, .int a1] => fX10_habitsOf a1 m
  | _ => none
theorem spX10_habitsOf : qSpI yX10_habitsOf (.code yX10_habitsOf cX10_habitsOf 2 (some .int)) 0 qfin 155 155 1 GX10_habitsOf := by
  intro av m x m' hG
  unfold GX10_habitsOf at hG
  split at hG
  · rename_i a1
    rw [fX10_habitsOf_d] at hG
    exact ⟨qmeet (J := jI) (r := (x, m')) (av := [.ref 7, .int a1]) (by decide +kernel) (Nat.le_of_ble_eq_true rfl) (fun C w h hm hx hn => sX10_habitsOf_0 h hm hx) ((lX10_habitsOf_0 _ _).trans hG) (Nat.le_of_ble_eq_true rfl), Or.inl ⟨7, _, 10, _, _, rfl, by decide, rfl, qCk_10, rfl⟩⟩
  · cases hG

